set_option maxHeartbeats 4000000 in
set_option maxRecDepth 100000 in
theorem c_X0_isNone (l : Launch) (D : va_G) (t : Nat → ClassId) (a : Nat → Nat) : Met l yX0_isNone (wd yX0_isNone cX0_isNone 1 (some .boolean)) (RM 0 0 0) (PreP D (TY t) [.ref (a 40)] [(a 40, .inr (0, [.int 0, .int 0, .int 0, .int 0, .int 0, .int 0, .int 0, .int 0, .ref (a 41), .ref (a 42), .ref (a 43), .ref (a 44), .ref (a 45), .ref (a 46), .ref (a 47), .ref (a 48), .ref (a 49), .ref (a 50), .ref (a 54)]))]) (QI 1) 0 0 NoF := by
  refine Met.ofW (cc := cX0_isNone) (maxL := 1) (ret := (some .boolean)) (by decide) rfl ?_
  intro p e s m args below meth c s₁ B hml hv
  obtain ⟨rfl, hP, hK, hN⟩ := hv
  have hx := B.exec
  have hb := B.bytes
  have hr := B.returns
  have hts : ∀ w ∈ TB, w.before _ s = true := fun w h => atoms_spec (ws := wd yX0_isNone cX0_isNone 1 (some .boolean)) B.pre w (List.mem_cons_of_mem _ h)
  have hown : s.vm.findClass RX0 = some m.cls := findClass_of_methodNamed B.named
  have hlocks := B.notSynchronized
  have hF : CallFix p m c cX0_isNone 1 s _ TB RX0 := ⟨hx, hb, hml, hown, hts⟩
  have hl := lv_entry ([.ref (a 40)]) (n := 1) (Nat.le_of_ble_eq_true rfl)
  rw [lg_entry_eq]
  generalize (lg_sl ([.ref (a 40)]) ++ List.replicate (1 - (lg_sl ([.ref (a 40)])).length) Slot.unset).toArray = ls at hl ⊢
  have hl : lv_has ls 1 [(0, .ref (a 40))] := hl
  have hS : va_S NoF s.heap s.heap [] := va_S.rf
  have hP : va_P D classes [(a 40, .inr (0, [.int 0, .int 0, .int 0, .int 0, .int 0, .int 0, .int 0, .int 0, .ref (a 41), .ref (a 42), .ref (a 43), .ref (a 44), .ref (a 45), .ref (a 46), .ref (a 47), .ref (a 48), .ref (a 49), .ref (a 50), .ref (a 54)]))] s.heap := hP
  refine lv_aload_n hx hb dX0_isNone_0 rfl (lv_at hl 0 rfl) ?_
  refine va_get (D := D) (ci := 0) (v := .int 0) (C := RX0) (T := TX0) (N := 19) hx hb hts iX0 hown hK hP 0 rfl rfl 0 (by decide) (hts _ m_117) (fun _ h9 => h9) rfl dX0_isNone_1 ?_
  refine lv_if_ne (tgt := 11) hx hb dX0_isNone_4 (by decide) (fun c9 => absurd c9 (by decide)) (fun _ => ?_)
  refine lv_iconst (v := 1) hx hb dX0_isNone_7 (by decide) ?_
  refine lv_goto (tgt := 12) hx hb dX0_isNone_8 (by decide) ?_
  exact W.zret (v := 1) hx hb hr rfl (fun t9 ht hW => ⟨⟨1, (), rfl, rfl, trivial⟩, hS.F ht⟩) hS.2.2 dX0_isNone_12

set_option maxHeartbeats 4000000 in
set_option maxRecDepth 100000 in
theorem c_X0_hasWord (l : Launch) (D : va_G) (t : Nat → ClassId) (a : Nat → Nat) (x : Int32) : Met l yX0_hasWord (wd yX0_hasWord cX0_hasWord 2 (some .boolean)) (RM 0 0 0) (PreP D (TY t) [.ref (a 40), .int x] [(a 40, .inr (0, [.int 0, .int 0, .int 0, .int 0, .int 0, .int 0, .int 0, .int 0, .ref (a 41), .ref (a 42), .ref (a 43), .ref (a 44), .ref (a 45), .ref (a 46), .ref (a 47), .ref (a 48), .ref (a 49), .ref (a 50), .ref (a 54)]))]) (QI 0) 0 0 NoF := by
  refine Met.ofW (cc := cX0_hasWord) (maxL := 2) (ret := (some .boolean)) (by decide) rfl ?_
  intro p e s m args below meth c s₁ B hml hv
  obtain ⟨rfl, hP, hK, hN⟩ := hv
  have hx := B.exec
  have hb := B.bytes
  have hr := B.returns
  have hts : ∀ w ∈ TB, w.before _ s = true := fun w h => atoms_spec (ws := wd yX0_hasWord cX0_hasWord 2 (some .boolean)) B.pre w (List.mem_cons_of_mem _ h)
  have hown : s.vm.findClass RX0 = some m.cls := findClass_of_methodNamed B.named
  have hlocks := B.notSynchronized
  have hF : CallFix p m c cX0_hasWord 2 s _ TB RX0 := ⟨hx, hb, hml, hown, hts⟩
  have hl := lv_entry ([.ref (a 40), .int x]) (n := 2) (Nat.le_of_ble_eq_true rfl)
  rw [lg_entry_eq]
  generalize (lg_sl ([.ref (a 40), .int x]) ++ List.replicate (2 - (lg_sl ([.ref (a 40), .int x])).length) Slot.unset).toArray = ls at hl ⊢
  have hl : lv_has ls 2 [(0, .ref (a 40)), (1, .int x)] := hl
  have hS : va_S NoF s.heap s.heap [] := va_S.rf
  have hP : va_P D classes [(a 40, .inr (0, [.int 0, .int 0, .int 0, .int 0, .int 0, .int 0, .int 0, .int 0, .ref (a 41), .ref (a 42), .ref (a 43), .ref (a 44), .ref (a 45), .ref (a 46), .ref (a 47), .ref (a 48), .ref (a 49), .ref (a 50), .ref (a 54)]))] s.heap := hP
  refine lv_iload_n hx hb dX0_hasWord_0 rfl (lv_at hl 1 rfl) ?_
  refine lv_if_lt (tgt := 16) hx hb dX0_hasWord_1 (by decide) (fun c_1 => ?_) (fun c_1 => ?_)
  · refine lv_iconst (v := 0) hx hb dX0_hasWord_16 (by decide) ?_
    exact W.zret (v := 0) hx hb hr rfl (fun t9 ht hW => ⟨⟨0, (), rfl, rfl, trivial⟩, hS.F ht⟩) hS.2.2 dX0_hasWord_17
  · refine lv_iload_n hx hb dX0_hasWord_4 rfl (lv_at hl 1 rfl) ?_
    refine lv_aload_n hx hb dX0_hasWord_5 rfl (lv_at hl 0 rfl) ?_
    refine va_get (D := D) (ci := 0) (v := .int 0) (C := RX0) (T := TX0) (N := 19) hx hb hts iX0 hown hK hP 0 rfl rfl 6 (by decide) (hts _ m_142) (fun _ h9 => h9) rfl dX0_hasWord_6 ?_
    refine lv_icmp_ge (tgt := 16) hx hb dX0_hasWord_9 (by decide) (fun c_2 => ?_) (fun c_2 => ?_)
    · refine lv_iconst (v := 0) hx hb dX0_hasWord_16 (by decide) ?_
      exact W.zret (v := 0) hx hb hr rfl (fun t9 ht hW => ⟨⟨0, (), rfl, rfl, trivial⟩, hS.F ht⟩) hS.2.2 dX0_hasWord_17
    · refine lv_iconst (v := 1) hx hb dX0_hasWord_12 (by decide) ?_
      refine lv_goto (tgt := 17) hx hb dX0_hasWord_13 (by decide) ?_
      exact W.zret (v := 1) hx hb hr rfl (fun t9 ht hW => ⟨⟨1, (), rfl, (absurd (x_nlt c_1) c_2), trivial⟩, hS.F ht⟩) hS.2.2 dX0_hasWord_17

set_option maxHeartbeats 4000000 in
set_option maxRecDepth 100000 in
theorem c_X0_hasSpeaker (l : Launch) (D : va_G) (t : Nat → ClassId) (a : Nat → Nat) (x : Int32) : Met l yX0_hasSpeaker (wd yX0_hasSpeaker cX0_hasSpeaker 2 (some .boolean)) (RM 0 0 0) (PreP D (TY t) [.ref (a 40), .int x] [(a 40, .inr (0, [.int 0, .int 0, .int 0, .int 0, .int 0, .int 0, .int 0, .int 0, .ref (a 41), .ref (a 42), .ref (a 43), .ref (a 44), .ref (a 45), .ref (a 46), .ref (a 47), .ref (a 48), .ref (a 49), .ref (a 50), .ref (a 54)]))]) (QI 0) 0 0 NoF := by
  refine Met.ofW (cc := cX0_hasSpeaker) (maxL := 2) (ret := (some .boolean)) (by decide) rfl ?_
  intro p e s m args below meth c s₁ B hml hv
  obtain ⟨rfl, hP, hK, hN⟩ := hv
  have hx := B.exec
  have hb := B.bytes
  have hr := B.returns
  have hts : ∀ w ∈ TB, w.before _ s = true := fun w h => atoms_spec (ws := wd yX0_hasSpeaker cX0_hasSpeaker 2 (some .boolean)) B.pre w (List.mem_cons_of_mem _ h)
  have hown : s.vm.findClass RX0 = some m.cls := findClass_of_methodNamed B.named
  have hlocks := B.notSynchronized
  have hF : CallFix p m c cX0_hasSpeaker 2 s _ TB RX0 := ⟨hx, hb, hml, hown, hts⟩
  have hl := lv_entry ([.ref (a 40), .int x]) (n := 2) (Nat.le_of_ble_eq_true rfl)
  rw [lg_entry_eq]
  generalize (lg_sl ([.ref (a 40), .int x]) ++ List.replicate (2 - (lg_sl ([.ref (a 40), .int x])).length) Slot.unset).toArray = ls at hl ⊢
  have hl : lv_has ls 2 [(0, .ref (a 40)), (1, .int x)] := hl
  have hS : va_S NoF s.heap s.heap [] := va_S.rf
  have hP : va_P D classes [(a 40, .inr (0, [.int 0, .int 0, .int 0, .int 0, .int 0, .int 0, .int 0, .int 0, .ref (a 41), .ref (a 42), .ref (a 43), .ref (a 44), .ref (a 45), .ref (a 46), .ref (a 47), .ref (a 48), .ref (a 49), .ref (a 50), .ref (a 54)]))] s.heap := hP
  refine lv_iload_n hx hb dX0_hasSpeaker_0 rfl (lv_at hl 1 rfl) ?_
  refine lv_if_lt (tgt := 16) hx hb dX0_hasSpeaker_1 (by decide) (fun c_1 => ?_) (fun c_1 => ?_)
  · refine lv_iconst (v := 0) hx hb dX0_hasSpeaker_16 (by decide) ?_
    exact W.zret (v := 0) hx hb hr rfl (fun t9 ht hW => ⟨⟨0, (), rfl, rfl, trivial⟩, hS.F ht⟩) hS.2.2 dX0_hasSpeaker_17
  · refine lv_iload_n hx hb dX0_hasSpeaker_4 rfl (lv_at hl 1 rfl) ?_
    refine lv_aload_n hx hb dX0_hasSpeaker_5 rfl (lv_at hl 0 rfl) ?_
    refine va_get (D := D) (ci := 0) (v := .int 0) (C := RX0) (T := TX0) (N := 19) hx hb hts iX0 hown hK hP 0 rfl rfl 7 (by decide) (hts _ m_149) (fun _ h9 => h9) rfl dX0_hasSpeaker_6 ?_
    refine lv_icmp_ge (tgt := 16) hx hb dX0_hasSpeaker_9 (by decide) (fun c_2 => ?_) (fun c_2 => ?_)
    · refine lv_iconst (v := 0) hx hb dX0_hasSpeaker_16 (by decide) ?_
      exact W.zret (v := 0) hx hb hr rfl (fun t9 ht hW => ⟨⟨0, (), rfl, rfl, trivial⟩, hS.F ht⟩) hS.2.2 dX0_hasSpeaker_17
    · refine lv_iconst (v := 1) hx hb dX0_hasSpeaker_12 (by decide) ?_
      refine lv_goto (tgt := 17) hx hb dX0_hasSpeaker_13 (by decide) ?_
      exact W.zret (v := 1) hx hb hr rfl (fun t9 ht hW => ⟨⟨1, (), rfl, (absurd (x_nlt c_1) c_2), trivial⟩, hS.F ht⟩) hS.2.2 dX0_hasSpeaker_17

set_option maxHeartbeats 4000000 in
set_option maxRecDepth 100000 in
theorem c_X0_hasDistrict (l : Launch) (D : va_G) (t : Nat → ClassId) (a : Nat → Nat) (x : Int32) : Met l yX0_hasDistrict (wd yX0_hasDistrict cX0_hasDistrict 2 (some .boolean)) (RM 0 0 0) (PreP D (TY t) [.ref (a 40), .int x] [(a 40, .inr (0, [.int 0, .int 0, .int 0, .int 0, .int 0, .int 0, .int 0, .int 0, .ref (a 41), .ref (a 42), .ref (a 43), .ref (a 44), .ref (a 45), .ref (a 46), .ref (a 47), .ref (a 48), .ref (a 49), .ref (a 50), .ref (a 54)]))]) (QI 0) 0 0 NoF := by
  refine Met.ofW (cc := cX0_hasDistrict) (maxL := 2) (ret := (some .boolean)) (by decide) rfl ?_
  intro p e s m args below meth c s₁ B hml hv
  obtain ⟨rfl, hP, hK, hN⟩ := hv
  have hx := B.exec
  have hb := B.bytes
  have hr := B.returns
  have hts : ∀ w ∈ TB, w.before _ s = true := fun w h => atoms_spec (ws := wd yX0_hasDistrict cX0_hasDistrict 2 (some .boolean)) B.pre w (List.mem_cons_of_mem _ h)
  have hown : s.vm.findClass RX0 = some m.cls := findClass_of_methodNamed B.named
  have hlocks := B.notSynchronized
  have hF : CallFix p m c cX0_hasDistrict 2 s _ TB RX0 := ⟨hx, hb, hml, hown, hts⟩
  have hl := lv_entry ([.ref (a 40), .int x]) (n := 2) (Nat.le_of_ble_eq_true rfl)
  rw [lg_entry_eq]
  generalize (lg_sl ([.ref (a 40), .int x]) ++ List.replicate (2 - (lg_sl ([.ref (a 40), .int x])).length) Slot.unset).toArray = ls at hl ⊢
  have hl : lv_has ls 2 [(0, .ref (a 40)), (1, .int x)] := hl
  have hS : va_S NoF s.heap s.heap [] := va_S.rf
  have hP : va_P D classes [(a 40, .inr (0, [.int 0, .int 0, .int 0, .int 0, .int 0, .int 0, .int 0, .int 0, .ref (a 41), .ref (a 42), .ref (a 43), .ref (a 44), .ref (a 45), .ref (a 46), .ref (a 47), .ref (a 48), .ref (a 49), .ref (a 50), .ref (a 54)]))] s.heap := hP
  refine lv_iload_n hx hb dX0_hasDistrict_0 rfl (lv_at hl 1 rfl) ?_
  refine lv_if_lt (tgt := 16) hx hb dX0_hasDistrict_1 (by decide) (fun c_1 => ?_) (fun c_1 => ?_)
  · refine lv_iconst (v := 0) hx hb dX0_hasDistrict_16 (by decide) ?_
    exact W.zret (v := 0) hx hb hr rfl (fun t9 ht hW => ⟨⟨0, (), rfl, rfl, trivial⟩, hS.F ht⟩) hS.2.2 dX0_hasDistrict_17
  · refine lv_iload_n hx hb dX0_hasDistrict_4 rfl (lv_at hl 1 rfl) ?_
    refine lv_aload_n hx hb dX0_hasDistrict_5 rfl (lv_at hl 0 rfl) ?_
    refine va_get (D := D) (ci := 0) (v := .int 0) (C := RX0) (T := TX0) (N := 19) hx hb hts iX0 hown hK hP 0 rfl rfl 5 (by decide) (hts _ m_135) (fun _ h9 => h9) rfl dX0_hasDistrict_6 ?_
    refine lv_icmp_ge (tgt := 16) hx hb dX0_hasDistrict_9 (by decide) (fun c_2 => ?_) (fun c_2 => ?_)
    · refine lv_iconst (v := 0) hx hb dX0_hasDistrict_16 (by decide) ?_
      exact W.zret (v := 0) hx hb hr rfl (fun t9 ht hW => ⟨⟨0, (), rfl, rfl, trivial⟩, hS.F ht⟩) hS.2.2 dX0_hasDistrict_17
    · refine lv_iconst (v := 1) hx hb dX0_hasDistrict_12 (by decide) ?_
      refine lv_goto (tgt := 17) hx hb dX0_hasDistrict_13 (by decide) ?_
      exact W.zret (v := 1) hx hb hr rfl (fun t9 ht hW => ⟨⟨1, (), rfl, (absurd (x_nlt c_1) c_2), trivial⟩, hS.F ht⟩) hS.2.2 dX0_hasDistrict_17

set_option maxHeartbeats 4000000 in
set_option maxRecDepth 100000 in
theorem c_X0_hasMeaning (l : Launch) (D : va_G) (t : Nat → ClassId) (a : Nat → Nat) (x : Int32) : Met l yX0_hasMeaning (wd yX0_hasMeaning cX0_hasMeaning 2 (some .boolean)) (RM 0 0 0) (PreP D (TY t) [.ref (a 40), .int x] [(a 40, .inr (0, [.int 0, .int 0, .int 0, .int 0, .int 0, .int 0, .int 0, .int 0, .ref (a 41), .ref (a 42), .ref (a 43), .ref (a 44), .ref (a 45), .ref (a 46), .ref (a 47), .ref (a 48), .ref (a 49), .ref (a 50), .ref (a 54)]))]) (QI 0) 0 0 NoF := by
  refine Met.ofW (cc := cX0_hasMeaning) (maxL := 2) (ret := (some .boolean)) (by decide) rfl ?_
  intro p e s m args below meth c s₁ B hml hv
  obtain ⟨rfl, hP, hK, hN⟩ := hv
  have hx := B.exec
  have hb := B.bytes
  have hr := B.returns
  have hts : ∀ w ∈ TB, w.before _ s = true := fun w h => atoms_spec (ws := wd yX0_hasMeaning cX0_hasMeaning 2 (some .boolean)) B.pre w (List.mem_cons_of_mem _ h)
  have hown : s.vm.findClass RX0 = some m.cls := findClass_of_methodNamed B.named
  have hlocks := B.notSynchronized
  have hF : CallFix p m c cX0_hasMeaning 2 s _ TB RX0 := ⟨hx, hb, hml, hown, hts⟩
  have hl := lv_entry ([.ref (a 40), .int x]) (n := 2) (Nat.le_of_ble_eq_true rfl)
  rw [lg_entry_eq]
  generalize (lg_sl ([.ref (a 40), .int x]) ++ List.replicate (2 - (lg_sl ([.ref (a 40), .int x])).length) Slot.unset).toArray = ls at hl ⊢
  have hl : lv_has ls 2 [(0, .ref (a 40)), (1, .int x)] := hl
  have hS : va_S NoF s.heap s.heap [] := va_S.rf
  have hP : va_P D classes [(a 40, .inr (0, [.int 0, .int 0, .int 0, .int 0, .int 0, .int 0, .int 0, .int 0, .ref (a 41), .ref (a 42), .ref (a 43), .ref (a 44), .ref (a 45), .ref (a 46), .ref (a 47), .ref (a 48), .ref (a 49), .ref (a 50), .ref (a 54)]))] s.heap := hP
  refine lv_iload_n hx hb dX0_hasMeaning_0 rfl (lv_at hl 1 rfl) ?_
  refine lv_if_lt (tgt := 16) hx hb dX0_hasMeaning_1 (by decide) (fun c_1 => ?_) (fun c_1 => ?_)
  · refine lv_iconst (v := 0) hx hb dX0_hasMeaning_16 (by decide) ?_
    exact W.zret (v := 0) hx hb hr rfl (fun t9 ht hW => ⟨⟨0, (), rfl, rfl, trivial⟩, hS.F ht⟩) hS.2.2 dX0_hasMeaning_17
  · refine lv_iload_n hx hb dX0_hasMeaning_4 rfl (lv_at hl 1 rfl) ?_
    refine lv_aload_n hx hb dX0_hasMeaning_5 rfl (lv_at hl 0 rfl) ?_
    refine va_get (D := D) (ci := 0) (v := .int 0) (C := RX0) (T := TX0) (N := 19) hx hb hts iX0 hown hK hP 0 rfl rfl 1 (by decide) (hts _ m_121) (fun _ h9 => h9) rfl dX0_hasMeaning_6 ?_
    refine lv_icmp_ge (tgt := 16) hx hb dX0_hasMeaning_9 (by decide) (fun c_2 => ?_) (fun c_2 => ?_)
    · refine lv_iconst (v := 0) hx hb dX0_hasMeaning_16 (by decide) ?_
      exact W.zret (v := 0) hx hb hr rfl (fun t9 ht hW => ⟨⟨0, (), rfl, rfl, trivial⟩, hS.F ht⟩) hS.2.2 dX0_hasMeaning_17
    · refine lv_iconst (v := 1) hx hb dX0_hasMeaning_12 (by decide) ?_
      refine lv_goto (tgt := 17) hx hb dX0_hasMeaning_13 (by decide) ?_
      exact W.zret (v := 1) hx hb hr rfl (fun t9 ht hW => ⟨⟨1, (), rfl, (absurd (x_nlt c_1) c_2), trivial⟩, hS.F ht⟩) hS.2.2 dX0_hasMeaning_17

set_option maxHeartbeats 4000000 in
set_option maxRecDepth 100000 in
theorem c_X11_isSlot (l : Launch) (D : va_G) (t : Nat → ClassId) (x : Int32) : Met l yX11_isSlot (wd yX11_isSlot cX11_isSlot 1 (some .boolean)) (RM 0 0 0) (PreP D (TY t) [.int x] []) (QI (ib 0 3 x)) 0 0 NoF := by
  refine Met.ofW (cc := cX11_isSlot) (maxL := 1) (ret := (some .boolean)) (by decide) rfl ?_
  intro p e s m args below meth c s₁ B hml hv
  obtain ⟨rfl, hP, hK, hN⟩ := hv
  have hx := B.exec
  have hb := B.bytes
  have hr := B.returns
  have hts : ∀ w ∈ TB, w.before _ s = true := fun w h => atoms_spec (ws := wd yX11_isSlot cX11_isSlot 1 (some .boolean)) B.pre w (List.mem_cons_of_mem _ h)
  have hown : s.vm.findClass RX11 = some m.cls := findClass_of_methodNamed B.named
  have hlocks := B.notSynchronized
  have hF : CallFix p m c cX11_isSlot 1 s _ TB RX11 := ⟨hx, hb, hml, hown, hts⟩
  have hl := lv_entry ([.int x]) (n := 1) (Nat.le_of_ble_eq_true rfl)
  rw [lg_entry_eq]
  generalize (lg_sl ([.int x]) ++ List.replicate (1 - (lg_sl ([.int x])).length) Slot.unset).toArray = ls at hl ⊢
  have hl : lv_has ls 1 [(0, .int x)] := hl
  have hS : va_S NoF s.heap s.heap [] := va_S.rf
  have hP : va_P D classes [] s.heap := hP
  refine lv_iload_n hx hb dX11_isSlot_0 rfl (lv_at hl 0 rfl) ?_
  refine lv_if_lt (tgt := 13) hx hb dX11_isSlot_1 (by decide) (fun c_1 => ?_) (fun c_1 => ?_)
  · refine lv_iconst (v := 0) hx hb dX11_isSlot_13 (by decide) ?_
    exact W.zret (v := 0) hx hb hr rfl (fun t9 ht hW => ⟨⟨0, (), rfl, (ib0 (by have q0 := t_lt c_1; have e0 : (0 : Int32).toInt = 0 := (by decide); omega)).symm, trivial⟩, hS.F ht⟩) hS.2.2 dX11_isSlot_14
  · refine lv_iload_n hx hb dX11_isSlot_4 rfl (lv_at hl 0 rfl) ?_
    refine lv_iconst (v := 4) hx hb dX11_isSlot_5 (by decide) ?_
    refine lv_icmp_ge (tgt := 13) hx hb dX11_isSlot_6 (by decide) (fun c_2 => ?_) (fun c_2 => ?_)
    · refine lv_iconst (v := 0) hx hb dX11_isSlot_13 (by decide) ?_
      exact W.zret (v := 0) hx hb hr rfl (fun t9 ht hW => ⟨⟨0, (), rfl, (ib0 (by have q0 := t_nlt c_1; have e0 : (0 : Int32).toInt = 0 := (by decide); have q1 := t_le c_2; have e1 : (4 : Int32).toInt = 4 := (by decide); omega)).symm, trivial⟩, hS.F ht⟩) hS.2.2 dX11_isSlot_14
    · refine lv_iconst (v := 1) hx hb dX11_isSlot_9 (by decide) ?_
      refine lv_goto (tgt := 14) hx hb dX11_isSlot_10 (by decide) ?_
      exact W.zret (v := 1) hx hb hr rfl (fun t9 ht hW => ⟨⟨1, (), rfl, (ib1 (by have q0 := t_nlt c_1; have e0 : (0 : Int32).toInt = 0 := (by decide); have q1 := t_nle c_2; have e1 : (4 : Int32).toInt = 4 := (by decide); omega)).symm, trivial⟩, hS.F ht⟩) hS.2.2 dX11_isSlot_14

set_option maxHeartbeats 4000000 in
set_option maxRecDepth 100000 in
theorem c_X11_isLaw (l : Launch) (D : va_G) (t : Nat → ClassId) (x : Int32) : Met l yX11_isLaw (wd yX11_isLaw cX11_isLaw 1 (some .boolean)) (RM 0 0 0) (PreP D (TY t) [.int x] []) (QI (ib 0 3 x)) 0 0 NoF := by
  refine Met.ofW (cc := cX11_isLaw) (maxL := 1) (ret := (some .boolean)) (by decide) rfl ?_
  intro p e s m args below meth c s₁ B hml hv
  obtain ⟨rfl, hP, hK, hN⟩ := hv
  have hx := B.exec
  have hb := B.bytes
  have hr := B.returns
  have hts : ∀ w ∈ TB, w.before _ s = true := fun w h => atoms_spec (ws := wd yX11_isLaw cX11_isLaw 1 (some .boolean)) B.pre w (List.mem_cons_of_mem _ h)
  have hown : s.vm.findClass RX11 = some m.cls := findClass_of_methodNamed B.named
  have hlocks := B.notSynchronized
  have hF : CallFix p m c cX11_isLaw 1 s _ TB RX11 := ⟨hx, hb, hml, hown, hts⟩
  have hl := lv_entry ([.int x]) (n := 1) (Nat.le_of_ble_eq_true rfl)
  rw [lg_entry_eq]
  generalize (lg_sl ([.int x]) ++ List.replicate (1 - (lg_sl ([.int x])).length) Slot.unset).toArray = ls at hl ⊢
  have hl : lv_has ls 1 [(0, .int x)] := hl
  have hS : va_S NoF s.heap s.heap [] := va_S.rf
  have hP : va_P D classes [] s.heap := hP
  refine lv_iload_n hx hb dX11_isLaw_0 rfl (lv_at hl 0 rfl) ?_
  refine lv_if_lt (tgt := 13) hx hb dX11_isLaw_1 (by decide) (fun c_1 => ?_) (fun c_1 => ?_)
  · refine lv_iconst (v := 0) hx hb dX11_isLaw_13 (by decide) ?_
    exact W.zret (v := 0) hx hb hr rfl (fun t9 ht hW => ⟨⟨0, (), rfl, (ib0 (by have q0 := t_lt c_1; have e0 : (0 : Int32).toInt = 0 := (by decide); omega)).symm, trivial⟩, hS.F ht⟩) hS.2.2 dX11_isLaw_14
  · refine lv_iload_n hx hb dX11_isLaw_4 rfl (lv_at hl 0 rfl) ?_
    refine lv_iconst (v := 4) hx hb dX11_isLaw_5 (by decide) ?_
    refine lv_icmp_ge (tgt := 13) hx hb dX11_isLaw_6 (by decide) (fun c_2 => ?_) (fun c_2 => ?_)
    · refine lv_iconst (v := 0) hx hb dX11_isLaw_13 (by decide) ?_
      exact W.zret (v := 0) hx hb hr rfl (fun t9 ht hW => ⟨⟨0, (), rfl, (ib0 (by have q0 := t_nlt c_1; have e0 : (0 : Int32).toInt = 0 := (by decide); have q1 := t_le c_2; have e1 : (4 : Int32).toInt = 4 := (by decide); omega)).symm, trivial⟩, hS.F ht⟩) hS.2.2 dX11_isLaw_14
    · refine lv_iconst (v := 1) hx hb dX11_isLaw_9 (by decide) ?_
      refine lv_goto (tgt := 14) hx hb dX11_isLaw_10 (by decide) ?_
      exact W.zret (v := 1) hx hb hr rfl (fun t9 ht hW => ⟨⟨1, (), rfl, (ib1 (by have q0 := t_nlt c_1; have e0 : (0 : Int32).toInt = 0 := (by decide); have q1 := t_nle c_2; have e1 : (4 : Int32).toInt = 4 := (by decide); omega)).symm, trivial⟩, hS.F ht⟩) hS.2.2 dX11_isLaw_14

set_option maxHeartbeats 4000000 in
set_option maxRecDepth 100000 in
theorem c_X11_isParty (l : Launch) (D : va_G) (t : Nat → ClassId) (x : Int32) : Met l yX11_isParty (wd yX11_isParty cX11_isParty 1 (some .boolean)) (RM 0 0 0) (PreP D (TY t) [.int x] []) (QI (ib 0 3 x)) 0 0 NoF := by
  refine Met.ofW (cc := cX11_isParty) (maxL := 1) (ret := (some .boolean)) (by decide) rfl ?_
  intro p e s m args below meth c s₁ B hml hv
  obtain ⟨rfl, hP, hK, hN⟩ := hv
  have hx := B.exec
  have hb := B.bytes
  have hr := B.returns
  have hts : ∀ w ∈ TB, w.before _ s = true := fun w h => atoms_spec (ws := wd yX11_isParty cX11_isParty 1 (some .boolean)) B.pre w (List.mem_cons_of_mem _ h)
  have hown : s.vm.findClass RX11 = some m.cls := findClass_of_methodNamed B.named
  have hlocks := B.notSynchronized
  have hF : CallFix p m c cX11_isParty 1 s _ TB RX11 := ⟨hx, hb, hml, hown, hts⟩
  have hl := lv_entry ([.int x]) (n := 1) (Nat.le_of_ble_eq_true rfl)
  rw [lg_entry_eq]
  generalize (lg_sl ([.int x]) ++ List.replicate (1 - (lg_sl ([.int x])).length) Slot.unset).toArray = ls at hl ⊢
  have hl : lv_has ls 1 [(0, .int x)] := hl
  have hS : va_S NoF s.heap s.heap [] := va_S.rf
  have hP : va_P D classes [] s.heap := hP
  refine lv_iload_n hx hb dX11_isParty_0 rfl (lv_at hl 0 rfl) ?_
  refine lv_if_lt (tgt := 13) hx hb dX11_isParty_1 (by decide) (fun c_1 => ?_) (fun c_1 => ?_)
  · refine lv_iconst (v := 0) hx hb dX11_isParty_13 (by decide) ?_
    exact W.zret (v := 0) hx hb hr rfl (fun t9 ht hW => ⟨⟨0, (), rfl, (ib0 (by have q0 := t_lt c_1; have e0 : (0 : Int32).toInt = 0 := (by decide); omega)).symm, trivial⟩, hS.F ht⟩) hS.2.2 dX11_isParty_14
  · refine lv_iload_n hx hb dX11_isParty_4 rfl (lv_at hl 0 rfl) ?_
    refine lv_iconst (v := 4) hx hb dX11_isParty_5 (by decide) ?_
    refine lv_icmp_ge (tgt := 13) hx hb dX11_isParty_6 (by decide) (fun c_2 => ?_) (fun c_2 => ?_)
    · refine lv_iconst (v := 0) hx hb dX11_isParty_13 (by decide) ?_
      exact W.zret (v := 0) hx hb hr rfl (fun t9 ht hW => ⟨⟨0, (), rfl, (ib0 (by have q0 := t_nlt c_1; have e0 : (0 : Int32).toInt = 0 := (by decide); have q1 := t_le c_2; have e1 : (4 : Int32).toInt = 4 := (by decide); omega)).symm, trivial⟩, hS.F ht⟩) hS.2.2 dX11_isParty_14
    · refine lv_iconst (v := 1) hx hb dX11_isParty_9 (by decide) ?_
      refine lv_goto (tgt := 14) hx hb dX11_isParty_10 (by decide) ?_
      exact W.zret (v := 1) hx hb hr rfl (fun t9 ht hW => ⟨⟨1, (), rfl, (ib1 (by have q0 := t_nlt c_1; have e0 : (0 : Int32).toInt = 0 := (by decide); have q1 := t_nle c_2; have e1 : (4 : Int32).toInt = 4 := (by decide); omega)).symm, trivial⟩, hS.F ht⟩) hS.2.2 dX11_isParty_14

set_option maxHeartbeats 4000000 in
set_option maxRecDepth 100000 in
theorem c_X11_isSeed (l : Launch) (D : va_G) (t : Nat → ClassId) (x : Int32) : Met l yX11_isSeed (wd yX11_isSeed cX11_isSeed 1 (some .boolean)) (RM 0 0 0) (PreP D (TY t) [.int x] []) (QI (ib 0 2000000000 x)) 0 0 NoF := by
  refine Met.ofW (cc := cX11_isSeed) (maxL := 1) (ret := (some .boolean)) (by decide) rfl ?_
  intro p e s m args below meth c s₁ B hml hv
  obtain ⟨rfl, hP, hK, hN⟩ := hv
  have hx := B.exec
  have hb := B.bytes
  have hr := B.returns
  have hts : ∀ w ∈ TB, w.before _ s = true := fun w h => atoms_spec (ws := wd yX11_isSeed cX11_isSeed 1 (some .boolean)) B.pre w (List.mem_cons_of_mem _ h)
  have hown : s.vm.findClass RX11 = some m.cls := findClass_of_methodNamed B.named
  have hlocks := B.notSynchronized
  have hF : CallFix p m c cX11_isSeed 1 s _ TB RX11 := ⟨hx, hb, hml, hown, hts⟩
  have hl := lv_entry ([.int x]) (n := 1) (Nat.le_of_ble_eq_true rfl)
  rw [lg_entry_eq]
  generalize (lg_sl ([.int x]) ++ List.replicate (1 - (lg_sl ([.int x])).length) Slot.unset).toArray = ls at hl ⊢
  have hl : lv_has ls 1 [(0, .int x)] := hl
  have hS : va_S NoF s.heap s.heap [] := va_S.rf
  have hP : va_P D classes [] s.heap := hP
  refine lv_iload_n hx hb dX11_isSeed_0 rfl (lv_at hl 0 rfl) ?_
  refine lv_if_lt (tgt := 15) hx hb dX11_isSeed_1 (by decide) (fun c_1 => ?_) (fun c_1 => ?_)
  · refine lv_iconst (v := 0) hx hb dX11_isSeed_15 (by decide) ?_
    exact W.zret (v := 0) hx hb hr rfl (fun t9 ht hW => ⟨⟨0, (), rfl, (ib0 (by have q0 := t_lt c_1; have e0 : (0 : Int32).toInt = 0 := (by decide); omega)).symm, trivial⟩, hS.F ht⟩) hS.2.2 dX11_isSeed_16
  · refine lv_iload_n hx hb dX11_isSeed_4 rfl (lv_at hl 0 rfl) ?_
    refine lv_ldcw (v := 2000000000) hx hb hown (hts _ m_1272) dX11_isSeed_5 ?_
    refine lv_icmp_gt (tgt := 15) hx hb dX11_isSeed_8 (by decide) (fun c_2 => ?_) (fun c_2 => ?_)
    · refine lv_iconst (v := 0) hx hb dX11_isSeed_15 (by decide) ?_
      exact W.zret (v := 0) hx hb hr rfl (fun t9 ht hW => ⟨⟨0, (), rfl, (ib0 (by have q0 := t_nlt c_1; have e0 : (0 : Int32).toInt = 0 := (by decide); have q1 := t_lt c_2; have e1 : (2000000000 : Int32).toInt = 2000000000 := (by decide); omega)).symm, trivial⟩, hS.F ht⟩) hS.2.2 dX11_isSeed_16
    · refine lv_iconst (v := 1) hx hb dX11_isSeed_11 (by decide) ?_
      refine lv_goto (tgt := 16) hx hb dX11_isSeed_12 (by decide) ?_
      exact W.zret (v := 1) hx hb hr rfl (fun t9 ht hW => ⟨⟨1, (), rfl, (ib1 (by have q0 := t_nlt c_1; have e0 : (0 : Int32).toInt = 0 := (by decide); have q1 := t_nlt c_2; have e1 : (2000000000 : Int32).toInt = 2000000000 := (by decide); omega)).symm, trivial⟩, hS.F ht⟩) hS.2.2 dX11_isSeed_16

set_option maxHeartbeats 4000000 in
set_option maxRecDepth 100000 in
theorem c_X11_word (l : Launch) (D : va_G) (t : Nat → ClassId) (a : Nat → Nat) (x : Int32) (y : Int32) : Met l yX11_word (wd yX11_word cX11_word 3 (some .int)) (RM 2 0 0) (PreP D (TY t) [.ref (a 0), .int x, .int y] [(a 0, .inr (11, [.ref (a 1), .ref (a 20), .ref (a 3), .ref (a 40), .ref (a 4), .int 0, .ref (a 5), .ref (a 14), .ref (a 15), .ref (a 16), .ref (a 17), .ref (a 18)])), (a 40, .inr (0, [.int 0, .int 0, .int 0, .int 0, .int 0, .int 0, .int 0, .int 0, .ref (a 41), .ref (a 42), .ref (a 43), .ref (a 44), .ref (a 45), .ref (a 46), .ref (a 47), .ref (a 48), .ref (a 49), .ref (a 50), .ref (a 54)]))]) (QI (-2)) 0 0 NoF := by
  refine Met.ofW (cc := cX11_word) (maxL := 3) (ret := (some .int)) (by decide) rfl ?_
  intro p e s m args below meth c s₁ B hml hv
  obtain ⟨rfl, hP, hK, hN⟩ := hv
  have hx := B.exec
  have hb := B.bytes
  have hr := B.returns
  have hts : ∀ w ∈ TB, w.before _ s = true := fun w h => atoms_spec (ws := wd yX11_word cX11_word 3 (some .int)) B.pre w (List.mem_cons_of_mem _ h)
  have hown : s.vm.findClass RX11 = some m.cls := findClass_of_methodNamed B.named
  have hlocks := B.notSynchronized
  have hF : CallFix p m c cX11_word 3 s _ TB RX11 := ⟨hx, hb, hml, hown, hts⟩
  have hl := lv_entry ([.ref (a 0), .int x, .int y]) (n := 3) (Nat.le_of_ble_eq_true rfl)
  rw [lg_entry_eq]
  generalize (lg_sl ([.ref (a 0), .int x, .int y]) ++ List.replicate (3 - (lg_sl ([.ref (a 0), .int x, .int y])).length) Slot.unset).toArray = ls at hl ⊢
  have hl : lv_has ls 3 [(0, .ref (a 0)), (1, .int x), (2, .int y)] := hl
  have hS : va_S NoF s.heap s.heap [] := va_S.rf
  have hP : va_P D classes [(a 0, .inr (11, [.ref (a 1), .ref (a 20), .ref (a 3), .ref (a 40), .ref (a 4), .int 0, .ref (a 5), .ref (a 14), .ref (a 15), .ref (a 16), .ref (a 17), .ref (a 18)])), (a 40, .inr (0, [.int 0, .int 0, .int 0, .int 0, .int 0, .int 0, .int 0, .int 0, .ref (a 41), .ref (a 42), .ref (a 43), .ref (a 44), .ref (a 45), .ref (a 46), .ref (a 47), .ref (a 48), .ref (a 49), .ref (a 50), .ref (a 54)]))] s.heap := hP
  refine lv_aload_n hx hb dX11_word_0 rfl (lv_at hl 0 rfl) ?_
  refine va_get (D := D) (ci := 11) (v := .ref (a 40)) (C := RX11) (T := TX11) (N := 12) hx hb hts iX11 hown hK hP 0 rfl rfl 3 (by decide) (hts _ m_436) (fun _ h9 => h9) rfl dX11_word_1 ?_
  refine lv_iload_n hx hb dX11_word_4 rfl (lv_at hl 1 rfl) ?_
  refine x_pV hF (c_X0_hasWord l D t a x) m_702 m_703 m_704 m_3 m_705 hd_X0_hasWord ⟨Nat.le_of_ble_eq_true rfl, Nat.le_of_ble_eq_true rfl⟩ hK hN hP hS [1] rfl 0 (ci := 0) rfl rfl rfl hl.1 rfl (Nat.le_of_ble_eq_true rfl) dX11_word_5 ⟨Nat.zero_le _, Nat.zero_le _⟩ (fun H locs hP hS => ?_)
  refine lv_if_ne (tgt := 14) hx hb dX11_word_8 (by decide) (fun c9 => absurd c9 (by decide)) (fun _ => ?_)
  refine lv_bipush (v := (-2)) hx hb dX11_word_11 (by decide) ?_
  exact W.iret (v := (-2)) hx hb hr (fun t9 ht hW => ⟨⟨(-2), (), rfl, rfl, trivial⟩, hS.F ht⟩) hS.2.2 dX11_word_13

set_option maxHeartbeats 4000000 in
set_option maxRecDepth 100000 in
theorem c_X11_speaker (l : Launch) (D : va_G) (t : Nat → ClassId) (a : Nat → Nat) (x : Int32) (y : Int32) : Met l yX11_speaker (wd yX11_speaker cX11_speaker 3 (some .int)) (RM 2 0 0) (PreP D (TY t) [.ref (a 0), .int x, .int y] [(a 0, .inr (11, [.ref (a 1), .ref (a 20), .ref (a 3), .ref (a 40), .ref (a 4), .int 0, .ref (a 5), .ref (a 14), .ref (a 15), .ref (a 16), .ref (a 17), .ref (a 18)])), (a 40, .inr (0, [.int 0, .int 0, .int 0, .int 0, .int 0, .int 0, .int 0, .int 0, .ref (a 41), .ref (a 42), .ref (a 43), .ref (a 44), .ref (a 45), .ref (a 46), .ref (a 47), .ref (a 48), .ref (a 49), .ref (a 50), .ref (a 54)]))]) (QI (-2)) 0 0 NoF := by
  refine Met.ofW (cc := cX11_speaker) (maxL := 3) (ret := (some .int)) (by decide) rfl ?_
  intro p e s m args below meth c s₁ B hml hv
  obtain ⟨rfl, hP, hK, hN⟩ := hv
  have hx := B.exec
  have hb := B.bytes
  have hr := B.returns
  have hts : ∀ w ∈ TB, w.before _ s = true := fun w h => atoms_spec (ws := wd yX11_speaker cX11_speaker 3 (some .int)) B.pre w (List.mem_cons_of_mem _ h)
  have hown : s.vm.findClass RX11 = some m.cls := findClass_of_methodNamed B.named
  have hlocks := B.notSynchronized
  have hF : CallFix p m c cX11_speaker 3 s _ TB RX11 := ⟨hx, hb, hml, hown, hts⟩
  have hl := lv_entry ([.ref (a 0), .int x, .int y]) (n := 3) (Nat.le_of_ble_eq_true rfl)
  rw [lg_entry_eq]
  generalize (lg_sl ([.ref (a 0), .int x, .int y]) ++ List.replicate (3 - (lg_sl ([.ref (a 0), .int x, .int y])).length) Slot.unset).toArray = ls at hl ⊢
  have hl : lv_has ls 3 [(0, .ref (a 0)), (1, .int x), (2, .int y)] := hl
  have hS : va_S NoF s.heap s.heap [] := va_S.rf
  have hP : va_P D classes [(a 0, .inr (11, [.ref (a 1), .ref (a 20), .ref (a 3), .ref (a 40), .ref (a 4), .int 0, .ref (a 5), .ref (a 14), .ref (a 15), .ref (a 16), .ref (a 17), .ref (a 18)])), (a 40, .inr (0, [.int 0, .int 0, .int 0, .int 0, .int 0, .int 0, .int 0, .int 0, .ref (a 41), .ref (a 42), .ref (a 43), .ref (a 44), .ref (a 45), .ref (a 46), .ref (a 47), .ref (a 48), .ref (a 49), .ref (a 50), .ref (a 54)]))] s.heap := hP
  refine lv_aload_n hx hb dX11_speaker_0 rfl (lv_at hl 0 rfl) ?_
  refine va_get (D := D) (ci := 11) (v := .ref (a 40)) (C := RX11) (T := TX11) (N := 12) hx hb hts iX11 hown hK hP 0 rfl rfl 3 (by decide) (hts _ m_436) (fun _ h9 => h9) rfl dX11_speaker_1 ?_
  refine lv_iload_n hx hb dX11_speaker_4 rfl (lv_at hl 1 rfl) ?_
  refine x_pV hF (c_X0_hasSpeaker l D t a x) m_713 m_714 m_715 m_3 m_716 hd_X0_hasSpeaker ⟨Nat.le_of_ble_eq_true rfl, Nat.le_of_ble_eq_true rfl⟩ hK hN hP hS [1] rfl 0 (ci := 0) rfl rfl rfl hl.1 rfl (Nat.le_of_ble_eq_true rfl) dX11_speaker_5 ⟨Nat.zero_le _, Nat.zero_le _⟩ (fun H locs hP hS => ?_)
  refine lv_if_ne (tgt := 14) hx hb dX11_speaker_8 (by decide) (fun c9 => absurd c9 (by decide)) (fun _ => ?_)
  refine lv_bipush (v := (-2)) hx hb dX11_speaker_11 (by decide) ?_
  exact W.iret (v := (-2)) hx hb hr (fun t9 ht hW => ⟨⟨(-2), (), rfl, rfl, trivial⟩, hS.F ht⟩) hS.2.2 dX11_speaker_13

set_option maxHeartbeats 4000000 in
set_option maxRecDepth 100000 in
theorem c_X11_district (l : Launch) (D : va_G) (t : Nat → ClassId) (a : Nat → Nat) (x : Int32) (y : Int32) : Met l yX11_district (wd yX11_district cX11_district 3 (some .int)) (RM 2 0 0) (PreP D (TY t) [.ref (a 0), .int x, .int y] [(a 0, .inr (11, [.ref (a 1), .ref (a 20), .ref (a 3), .ref (a 40), .ref (a 4), .int 0, .ref (a 5), .ref (a 14), .ref (a 15), .ref (a 16), .ref (a 17), .ref (a 18)])), (a 40, .inr (0, [.int 0, .int 0, .int 0, .int 0, .int 0, .int 0, .int 0, .int 0, .ref (a 41), .ref (a 42), .ref (a 43), .ref (a 44), .ref (a 45), .ref (a 46), .ref (a 47), .ref (a 48), .ref (a 49), .ref (a 50), .ref (a 54)]))]) (QI (-2)) 0 0 NoF := by
  refine Met.ofW (cc := cX11_district) (maxL := 3) (ret := (some .int)) (by decide) rfl ?_
  intro p e s m args below meth c s₁ B hml hv
  obtain ⟨rfl, hP, hK, hN⟩ := hv
  have hx := B.exec
  have hb := B.bytes
  have hr := B.returns
  have hts : ∀ w ∈ TB, w.before _ s = true := fun w h => atoms_spec (ws := wd yX11_district cX11_district 3 (some .int)) B.pre w (List.mem_cons_of_mem _ h)
  have hown : s.vm.findClass RX11 = some m.cls := findClass_of_methodNamed B.named
  have hlocks := B.notSynchronized
  have hF : CallFix p m c cX11_district 3 s _ TB RX11 := ⟨hx, hb, hml, hown, hts⟩
  have hl := lv_entry ([.ref (a 0), .int x, .int y]) (n := 3) (Nat.le_of_ble_eq_true rfl)
  rw [lg_entry_eq]
  generalize (lg_sl ([.ref (a 0), .int x, .int y]) ++ List.replicate (3 - (lg_sl ([.ref (a 0), .int x, .int y])).length) Slot.unset).toArray = ls at hl ⊢
  have hl : lv_has ls 3 [(0, .ref (a 0)), (1, .int x), (2, .int y)] := hl
  have hS : va_S NoF s.heap s.heap [] := va_S.rf
  have hP : va_P D classes [(a 0, .inr (11, [.ref (a 1), .ref (a 20), .ref (a 3), .ref (a 40), .ref (a 4), .int 0, .ref (a 5), .ref (a 14), .ref (a 15), .ref (a 16), .ref (a 17), .ref (a 18)])), (a 40, .inr (0, [.int 0, .int 0, .int 0, .int 0, .int 0, .int 0, .int 0, .int 0, .ref (a 41), .ref (a 42), .ref (a 43), .ref (a 44), .ref (a 45), .ref (a 46), .ref (a 47), .ref (a 48), .ref (a 49), .ref (a 50), .ref (a 54)]))] s.heap := hP
  refine lv_aload_n hx hb dX11_district_0 rfl (lv_at hl 0 rfl) ?_
  refine va_get (D := D) (ci := 11) (v := .ref (a 40)) (C := RX11) (T := TX11) (N := 12) hx hb hts iX11 hown hK hP 0 rfl rfl 3 (by decide) (hts _ m_436) (fun _ h9 => h9) rfl dX11_district_1 ?_
  refine lv_iload_n hx hb dX11_district_4 rfl (lv_at hl 1 rfl) ?_
  refine x_pV hF (c_X0_hasDistrict l D t a x) m_721 m_722 m_723 m_3 m_724 hd_X0_hasDistrict ⟨Nat.le_of_ble_eq_true rfl, Nat.le_of_ble_eq_true rfl⟩ hK hN hP hS [1] rfl 0 (ci := 0) rfl rfl rfl hl.1 rfl (Nat.le_of_ble_eq_true rfl) dX11_district_5 ⟨Nat.zero_le _, Nat.zero_le _⟩ (fun H locs hP hS => ?_)
  refine lv_if_ne (tgt := 14) hx hb dX11_district_8 (by decide) (fun c9 => absurd c9 (by decide)) (fun _ => ?_)
  refine lv_bipush (v := (-2)) hx hb dX11_district_11 (by decide) ?_
  exact W.iret (v := (-2)) hx hb hr (fun t9 ht hW => ⟨⟨(-2), (), rfl, rfl, trivial⟩, hS.F ht⟩) hS.2.2 dX11_district_13

set_option maxHeartbeats 4000000 in
set_option maxRecDepth 100000 in
theorem c_X11_likes (l : Launch) (D : va_G) (t : Nat → ClassId) (a : Nat → Nat) (x : Int32) (y : Int32) : Met l yX11_likes (wd yX11_likes cX11_likes 3 (some .int)) (RM 2 0 0) (PreP D (TY t) [.ref (a 0), .int x, .int y] [(a 0, .inr (11, [.ref (a 1), .ref (a 20), .ref (a 3), .ref (a 40), .ref (a 4), .int 0, .ref (a 5), .ref (a 14), .ref (a 15), .ref (a 16), .ref (a 17), .ref (a 18)])), (a 40, .inr (0, [.int 0, .int 0, .int 0, .int 0, .int 0, .int 0, .int 0, .int 0, .ref (a 41), .ref (a 42), .ref (a 43), .ref (a 44), .ref (a 45), .ref (a 46), .ref (a 47), .ref (a 48), .ref (a 49), .ref (a 50), .ref (a 54)]))]) (QI (-2)) 0 0 NoF := by
  refine Met.ofW (cc := cX11_likes) (maxL := 3) (ret := (some .int)) (by decide) rfl ?_
  intro p e s m args below meth c s₁ B hml hv
  obtain ⟨rfl, hP, hK, hN⟩ := hv
  have hx := B.exec
  have hb := B.bytes
  have hr := B.returns
  have hts : ∀ w ∈ TB, w.before _ s = true := fun w h => atoms_spec (ws := wd yX11_likes cX11_likes 3 (some .int)) B.pre w (List.mem_cons_of_mem _ h)
  have hown : s.vm.findClass RX11 = some m.cls := findClass_of_methodNamed B.named
  have hlocks := B.notSynchronized
  have hF : CallFix p m c cX11_likes 3 s _ TB RX11 := ⟨hx, hb, hml, hown, hts⟩
  have hl := lv_entry ([.ref (a 0), .int x, .int y]) (n := 3) (Nat.le_of_ble_eq_true rfl)
  rw [lg_entry_eq]
  generalize (lg_sl ([.ref (a 0), .int x, .int y]) ++ List.replicate (3 - (lg_sl ([.ref (a 0), .int x, .int y])).length) Slot.unset).toArray = ls at hl ⊢
  have hl : lv_has ls 3 [(0, .ref (a 0)), (1, .int x), (2, .int y)] := hl
  have hS : va_S NoF s.heap s.heap [] := va_S.rf
  have hP : va_P D classes [(a 0, .inr (11, [.ref (a 1), .ref (a 20), .ref (a 3), .ref (a 40), .ref (a 4), .int 0, .ref (a 5), .ref (a 14), .ref (a 15), .ref (a 16), .ref (a 17), .ref (a 18)])), (a 40, .inr (0, [.int 0, .int 0, .int 0, .int 0, .int 0, .int 0, .int 0, .int 0, .ref (a 41), .ref (a 42), .ref (a 43), .ref (a 44), .ref (a 45), .ref (a 46), .ref (a 47), .ref (a 48), .ref (a 49), .ref (a 50), .ref (a 54)]))] s.heap := hP
  refine lv_aload_n hx hb dX11_likes_0 rfl (lv_at hl 0 rfl) ?_
  refine va_get (D := D) (ci := 11) (v := .ref (a 40)) (C := RX11) (T := TX11) (N := 12) hx hb hts iX11 hown hK hP 0 rfl rfl 3 (by decide) (hts _ m_436) (fun _ h9 => h9) rfl dX11_likes_1 ?_
  refine lv_iload_n hx hb dX11_likes_4 rfl (lv_at hl 1 rfl) ?_
  refine x_pV hF (c_X0_hasSpeaker l D t a x) m_713 m_714 m_715 m_3 m_716 hd_X0_hasSpeaker ⟨Nat.le_of_ble_eq_true rfl, Nat.le_of_ble_eq_true rfl⟩ hK hN hP hS [1] rfl 0 (ci := 0) rfl rfl rfl hl.1 rfl (Nat.le_of_ble_eq_true rfl) dX11_likes_5 ⟨Nat.zero_le _, Nat.zero_le _⟩ (fun H locs hP hS => ?_)
  refine lv_if_eq (tgt := 22) hx hb dX11_likes_8 (by decide) (fun _ => ?_) (fun c9 => absurd (by decide) c9)
  refine lv_bipush (v := (-2)) hx hb dX11_likes_22 (by decide) ?_
  exact W.iret (v := (-2)) hx hb hr (fun t9 ht hW => ⟨⟨(-2), (), rfl, rfl, trivial⟩, hS.F ht⟩) hS.2.2 dX11_likes_24

set_option maxHeartbeats 4000000 in
set_option maxRecDepth 100000 in
theorem c_X11_order (l : Launch) (D : va_G) (t : Nat → ClassId) (a : Nat → Nat) (x : Int32) (y : Int32) : Met l yX11_order (wd yX11_order cX11_order 3 (some .int)) (RM 2 0 0) (PreP D (TY t) [.ref (a 0), .int x, .int y] [(a 0, .inr (11, [.ref (a 1), .ref (a 20), .ref (a 3), .ref (a 40), .ref (a 4), .int 0, .ref (a 5), .ref (a 14), .ref (a 15), .ref (a 16), .ref (a 17), .ref (a 18)])), (a 40, .inr (0, [.int 0, .int 0, .int 0, .int 0, .int 0, .int 0, .int 0, .int 0, .ref (a 41), .ref (a 42), .ref (a 43), .ref (a 44), .ref (a 45), .ref (a 46), .ref (a 47), .ref (a 48), .ref (a 49), .ref (a 50), .ref (a 54)]))]) (QI (-2)) 0 0 NoF := by
  refine Met.ofW (cc := cX11_order) (maxL := 3) (ret := (some .int)) (by decide) rfl ?_
  intro p e s m args below meth c s₁ B hml hv
  obtain ⟨rfl, hP, hK, hN⟩ := hv
  have hx := B.exec
  have hb := B.bytes
  have hr := B.returns
  have hts : ∀ w ∈ TB, w.before _ s = true := fun w h => atoms_spec (ws := wd yX11_order cX11_order 3 (some .int)) B.pre w (List.mem_cons_of_mem _ h)
  have hown : s.vm.findClass RX11 = some m.cls := findClass_of_methodNamed B.named
  have hlocks := B.notSynchronized
  have hF : CallFix p m c cX11_order 3 s _ TB RX11 := ⟨hx, hb, hml, hown, hts⟩
  have hl := lv_entry ([.ref (a 0), .int x, .int y]) (n := 3) (Nat.le_of_ble_eq_true rfl)
  rw [lg_entry_eq]
  generalize (lg_sl ([.ref (a 0), .int x, .int y]) ++ List.replicate (3 - (lg_sl ([.ref (a 0), .int x, .int y])).length) Slot.unset).toArray = ls at hl ⊢
  have hl : lv_has ls 3 [(0, .ref (a 0)), (1, .int x), (2, .int y)] := hl
  have hS : va_S NoF s.heap s.heap [] := va_S.rf
  have hP : va_P D classes [(a 0, .inr (11, [.ref (a 1), .ref (a 20), .ref (a 3), .ref (a 40), .ref (a 4), .int 0, .ref (a 5), .ref (a 14), .ref (a 15), .ref (a 16), .ref (a 17), .ref (a 18)])), (a 40, .inr (0, [.int 0, .int 0, .int 0, .int 0, .int 0, .int 0, .int 0, .int 0, .ref (a 41), .ref (a 42), .ref (a 43), .ref (a 44), .ref (a 45), .ref (a 46), .ref (a 47), .ref (a 48), .ref (a 49), .ref (a 50), .ref (a 54)]))] s.heap := hP
  refine lv_aload_n hx hb dX11_order_0 rfl (lv_at hl 0 rfl) ?_
  refine va_get (D := D) (ci := 11) (v := .ref (a 40)) (C := RX11) (T := TX11) (N := 12) hx hb hts iX11 hown hK hP 0 rfl rfl 3 (by decide) (hts _ m_436) (fun _ h9 => h9) rfl dX11_order_1 ?_
  refine lv_iload_n hx hb dX11_order_4 rfl (lv_at hl 1 rfl) ?_
  refine x_pV hF (c_X0_hasSpeaker l D t a x) m_713 m_714 m_715 m_3 m_716 hd_X0_hasSpeaker ⟨Nat.le_of_ble_eq_true rfl, Nat.le_of_ble_eq_true rfl⟩ hK hN hP hS [1] rfl 0 (ci := 0) rfl rfl rfl hl.1 rfl (Nat.le_of_ble_eq_true rfl) dX11_order_5 ⟨Nat.zero_le _, Nat.zero_le _⟩ (fun H locs hP hS => ?_)
  refine lv_if_ne (tgt := 14) hx hb dX11_order_8 (by decide) (fun c9 => absurd c9 (by decide)) (fun _ => ?_)
  refine lv_bipush (v := (-2)) hx hb dX11_order_11 (by decide) ?_
  exact W.iret (v := (-2)) hx hb hr (fun t9 ht hW => ⟨⟨(-2), (), rfl, rfl, trivial⟩, hS.F ht⟩) hS.2.2 dX11_order_13

set_option maxHeartbeats 4000000 in
set_option maxRecDepth 100000 in
theorem c_X11_votes (l : Launch) (D : va_G) (t : Nat → ClassId) (a : Nat → Nat) (x : Int32) : Met l yX11_votes (wd yX11_votes cX11_votes 2 (some .int)) (RM 2 0 0) (PreP D (TY t) [.ref (a 0), .int x] [(a 0, .inr (11, [.ref (a 1), .ref (a 20), .ref (a 3), .ref (a 40), .ref (a 4), .int 0, .ref (a 5), .ref (a 14), .ref (a 15), .ref (a 16), .ref (a 17), .ref (a 18)])), (a 40, .inr (0, [.int 0, .int 0, .int 0, .int 0, .int 0, .int 0, .int 0, .int 0, .ref (a 41), .ref (a 42), .ref (a 43), .ref (a 44), .ref (a 45), .ref (a 46), .ref (a 47), .ref (a 48), .ref (a 49), .ref (a 50), .ref (a 54)]))]) (QI (-2)) 0 0 NoF := by
  refine Met.ofW (cc := cX11_votes) (maxL := 2) (ret := (some .int)) (by decide) rfl ?_
  intro p e s m args below meth c s₁ B hml hv
  obtain ⟨rfl, hP, hK, hN⟩ := hv
  have hx := B.exec
  have hb := B.bytes
  have hr := B.returns
  have hts : ∀ w ∈ TB, w.before _ s = true := fun w h => atoms_spec (ws := wd yX11_votes cX11_votes 2 (some .int)) B.pre w (List.mem_cons_of_mem _ h)
  have hown : s.vm.findClass RX11 = some m.cls := findClass_of_methodNamed B.named
  have hlocks := B.notSynchronized
  have hF : CallFix p m c cX11_votes 2 s _ TB RX11 := ⟨hx, hb, hml, hown, hts⟩
  have hl := lv_entry ([.ref (a 0), .int x]) (n := 2) (Nat.le_of_ble_eq_true rfl)
  rw [lg_entry_eq]
  generalize (lg_sl ([.ref (a 0), .int x]) ++ List.replicate (2 - (lg_sl ([.ref (a 0), .int x])).length) Slot.unset).toArray = ls at hl ⊢
  have hl : lv_has ls 2 [(0, .ref (a 0)), (1, .int x)] := hl
  have hS : va_S NoF s.heap s.heap [] := va_S.rf
  have hP : va_P D classes [(a 0, .inr (11, [.ref (a 1), .ref (a 20), .ref (a 3), .ref (a 40), .ref (a 4), .int 0, .ref (a 5), .ref (a 14), .ref (a 15), .ref (a 16), .ref (a 17), .ref (a 18)])), (a 40, .inr (0, [.int 0, .int 0, .int 0, .int 0, .int 0, .int 0, .int 0, .int 0, .ref (a 41), .ref (a 42), .ref (a 43), .ref (a 44), .ref (a 45), .ref (a 46), .ref (a 47), .ref (a 48), .ref (a 49), .ref (a 50), .ref (a 54)]))] s.heap := hP
  refine lv_aload_n hx hb dX11_votes_0 rfl (lv_at hl 0 rfl) ?_
  refine va_get (D := D) (ci := 11) (v := .ref (a 40)) (C := RX11) (T := TX11) (N := 12) hx hb hts iX11 hown hK hP 0 rfl rfl 3 (by decide) (hts _ m_436) (fun _ h9 => h9) rfl dX11_votes_1 ?_
  refine lv_iload_n hx hb dX11_votes_4 rfl (lv_at hl 1 rfl) ?_
  refine x_pV hF (c_X0_hasWord l D t a x) m_702 m_703 m_704 m_3 m_705 hd_X0_hasWord ⟨Nat.le_of_ble_eq_true rfl, Nat.le_of_ble_eq_true rfl⟩ hK hN hP hS [1] rfl 0 (ci := 0) rfl rfl rfl hl.1 rfl (Nat.le_of_ble_eq_true rfl) dX11_votes_5 ⟨Nat.zero_le _, Nat.zero_le _⟩ (fun H locs hP hS => ?_)
  refine lv_if_ne (tgt := 14) hx hb dX11_votes_8 (by decide) (fun c9 => absurd c9 (by decide)) (fun _ => ?_)
  refine lv_bipush (v := (-2)) hx hb dX11_votes_11 (by decide) ?_
  exact W.iret (v := (-2)) hx hb hr (fun t9 ht hW => ⟨⟨(-2), (), rfl, rfl, trivial⟩, hS.F ht⟩) hS.2.2 dX11_votes_13

set_option maxHeartbeats 4000000 in
set_option maxRecDepth 100000 in
theorem c_X11_abstains (l : Launch) (D : va_G) (t : Nat → ClassId) (a : Nat → Nat) (x : Int32) : Met l yX11_abstains (wd yX11_abstains cX11_abstains 2 (some .int)) (RM 2 0 0) (PreP D (TY t) [.ref (a 0), .int x] [(a 0, .inr (11, [.ref (a 1), .ref (a 20), .ref (a 3), .ref (a 40), .ref (a 4), .int 0, .ref (a 5), .ref (a 14), .ref (a 15), .ref (a 16), .ref (a 17), .ref (a 18)])), (a 40, .inr (0, [.int 0, .int 0, .int 0, .int 0, .int 0, .int 0, .int 0, .int 0, .ref (a 41), .ref (a 42), .ref (a 43), .ref (a 44), .ref (a 45), .ref (a 46), .ref (a 47), .ref (a 48), .ref (a 49), .ref (a 50), .ref (a 54)]))]) (QI (-2)) 0 0 NoF := by
  refine Met.ofW (cc := cX11_abstains) (maxL := 2) (ret := (some .int)) (by decide) rfl ?_
  intro p e s m args below meth c s₁ B hml hv
  obtain ⟨rfl, hP, hK, hN⟩ := hv
  have hx := B.exec
  have hb := B.bytes
  have hr := B.returns
  have hts : ∀ w ∈ TB, w.before _ s = true := fun w h => atoms_spec (ws := wd yX11_abstains cX11_abstains 2 (some .int)) B.pre w (List.mem_cons_of_mem _ h)
  have hown : s.vm.findClass RX11 = some m.cls := findClass_of_methodNamed B.named
  have hlocks := B.notSynchronized
  have hF : CallFix p m c cX11_abstains 2 s _ TB RX11 := ⟨hx, hb, hml, hown, hts⟩
  have hl := lv_entry ([.ref (a 0), .int x]) (n := 2) (Nat.le_of_ble_eq_true rfl)
  rw [lg_entry_eq]
  generalize (lg_sl ([.ref (a 0), .int x]) ++ List.replicate (2 - (lg_sl ([.ref (a 0), .int x])).length) Slot.unset).toArray = ls at hl ⊢
  have hl : lv_has ls 2 [(0, .ref (a 0)), (1, .int x)] := hl
  have hS : va_S NoF s.heap s.heap [] := va_S.rf
  have hP : va_P D classes [(a 0, .inr (11, [.ref (a 1), .ref (a 20), .ref (a 3), .ref (a 40), .ref (a 4), .int 0, .ref (a 5), .ref (a 14), .ref (a 15), .ref (a 16), .ref (a 17), .ref (a 18)])), (a 40, .inr (0, [.int 0, .int 0, .int 0, .int 0, .int 0, .int 0, .int 0, .int 0, .ref (a 41), .ref (a 42), .ref (a 43), .ref (a 44), .ref (a 45), .ref (a 46), .ref (a 47), .ref (a 48), .ref (a 49), .ref (a 50), .ref (a 54)]))] s.heap := hP
  refine lv_aload_n hx hb dX11_abstains_0 rfl (lv_at hl 0 rfl) ?_
  refine va_get (D := D) (ci := 11) (v := .ref (a 40)) (C := RX11) (T := TX11) (N := 12) hx hb hts iX11 hown hK hP 0 rfl rfl 3 (by decide) (hts _ m_436) (fun _ h9 => h9) rfl dX11_abstains_1 ?_
  refine lv_iload_n hx hb dX11_abstains_4 rfl (lv_at hl 1 rfl) ?_
  refine x_pV hF (c_X0_hasDistrict l D t a x) m_721 m_722 m_723 m_3 m_724 hd_X0_hasDistrict ⟨Nat.le_of_ble_eq_true rfl, Nat.le_of_ble_eq_true rfl⟩ hK hN hP hS [1] rfl 0 (ci := 0) rfl rfl rfl hl.1 rfl (Nat.le_of_ble_eq_true rfl) dX11_abstains_5 ⟨Nat.zero_le _, Nat.zero_le _⟩ (fun H locs hP hS => ?_)
  refine lv_if_ne (tgt := 14) hx hb dX11_abstains_8 (by decide) (fun c9 => absurd c9 (by decide)) (fun _ => ?_)
  refine lv_bipush (v := (-2)) hx hb dX11_abstains_11 (by decide) ?_
  exact W.iret (v := (-2)) hx hb hr (fun t9 ht hW => ⟨⟨(-2), (), rfl, rfl, trivial⟩, hS.F ht⟩) hS.2.2 dX11_abstains_13

set_option maxHeartbeats 4000000 in
set_option maxRecDepth 100000 in
theorem c_X11_wins (l : Launch) (D : va_G) (t : Nat → ClassId) (a : Nat → Nat) (x : Int32) (y : Int32) : Met l yX11_wins (wd yX11_wins cX11_wins 3 (some .int)) (RM 2 0 0) (PreP D (TY t) [.ref (a 0), .int x, .int y] [(a 0, .inr (11, [.ref (a 1), .ref (a 20), .ref (a 3), .ref (a 40), .ref (a 4), .int 0, .ref (a 5), .ref (a 14), .ref (a 15), .ref (a 16), .ref (a 17), .ref (a 18)])), (a 40, .inr (0, [.int 0, .int 0, .int 0, .int 0, .int 0, .int 0, .int 0, .int 0, .ref (a 41), .ref (a 42), .ref (a 43), .ref (a 44), .ref (a 45), .ref (a 46), .ref (a 47), .ref (a 48), .ref (a 49), .ref (a 50), .ref (a 54)]))]) (QI (-2)) 0 0 NoF := by
  refine Met.ofW (cc := cX11_wins) (maxL := 3) (ret := (some .int)) (by decide) rfl ?_
  intro p e s m args below meth c s₁ B hml hv
  obtain ⟨rfl, hP, hK, hN⟩ := hv
  have hx := B.exec
  have hb := B.bytes
  have hr := B.returns
  have hts : ∀ w ∈ TB, w.before _ s = true := fun w h => atoms_spec (ws := wd yX11_wins cX11_wins 3 (some .int)) B.pre w (List.mem_cons_of_mem _ h)
  have hown : s.vm.findClass RX11 = some m.cls := findClass_of_methodNamed B.named
  have hlocks := B.notSynchronized
  have hF : CallFix p m c cX11_wins 3 s _ TB RX11 := ⟨hx, hb, hml, hown, hts⟩
  have hl := lv_entry ([.ref (a 0), .int x, .int y]) (n := 3) (Nat.le_of_ble_eq_true rfl)
  rw [lg_entry_eq]
  generalize (lg_sl ([.ref (a 0), .int x, .int y]) ++ List.replicate (3 - (lg_sl ([.ref (a 0), .int x, .int y])).length) Slot.unset).toArray = ls at hl ⊢
  have hl : lv_has ls 3 [(0, .ref (a 0)), (1, .int x), (2, .int y)] := hl
  have hS : va_S NoF s.heap s.heap [] := va_S.rf
  have hP : va_P D classes [(a 0, .inr (11, [.ref (a 1), .ref (a 20), .ref (a 3), .ref (a 40), .ref (a 4), .int 0, .ref (a 5), .ref (a 14), .ref (a 15), .ref (a 16), .ref (a 17), .ref (a 18)])), (a 40, .inr (0, [.int 0, .int 0, .int 0, .int 0, .int 0, .int 0, .int 0, .int 0, .ref (a 41), .ref (a 42), .ref (a 43), .ref (a 44), .ref (a 45), .ref (a 46), .ref (a 47), .ref (a 48), .ref (a 49), .ref (a 50), .ref (a 54)]))] s.heap := hP
  refine lv_aload_n hx hb dX11_wins_0 rfl (lv_at hl 0 rfl) ?_
  refine va_get (D := D) (ci := 11) (v := .ref (a 40)) (C := RX11) (T := TX11) (N := 12) hx hb hts iX11 hown hK hP 0 rfl rfl 3 (by decide) (hts _ m_436) (fun _ h9 => h9) rfl dX11_wins_1 ?_
  refine lv_iload_n hx hb dX11_wins_4 rfl (lv_at hl 1 rfl) ?_
  refine x_pV hF (c_X0_hasDistrict l D t a x) m_721 m_722 m_723 m_3 m_724 hd_X0_hasDistrict ⟨Nat.le_of_ble_eq_true rfl, Nat.le_of_ble_eq_true rfl⟩ hK hN hP hS [1] rfl 0 (ci := 0) rfl rfl rfl hl.1 rfl (Nat.le_of_ble_eq_true rfl) dX11_wins_5 ⟨Nat.zero_le _, Nat.zero_le _⟩ (fun H locs hP hS => ?_)
  refine lv_if_eq (tgt := 18) hx hb dX11_wins_8 (by decide) (fun _ => ?_) (fun c9 => absurd (by decide) c9)
  refine lv_bipush (v := (-2)) hx hb dX11_wins_18 (by decide) ?_
  exact W.iret (v := (-2)) hx hb hr (fun t9 ht hW => ⟨⟨(-2), (), rfl, rfl, trivial⟩, hS.F ht⟩) hS.2.2 dX11_wins_20

set_option maxHeartbeats 4000000 in
set_option maxRecDepth 100000 in
theorem c_X11_sits (l : Launch) (D : va_G) (t : Nat → ClassId) (a : Nat → Nat) (x : Int32) (y : Int32) : Met l yX11_sits (wd yX11_sits cX11_sits 3 (some .int)) (RM 2 0 0) (PreP D (TY t) [.ref (a 0), .int x, .int y] [(a 0, .inr (11, [.ref (a 1), .ref (a 20), .ref (a 3), .ref (a 40), .ref (a 4), .int 0, .ref (a 5), .ref (a 14), .ref (a 15), .ref (a 16), .ref (a 17), .ref (a 18)])), (a 40, .inr (0, [.int 0, .int 0, .int 0, .int 0, .int 0, .int 0, .int 0, .int 0, .ref (a 41), .ref (a 42), .ref (a 43), .ref (a 44), .ref (a 45), .ref (a 46), .ref (a 47), .ref (a 48), .ref (a 49), .ref (a 50), .ref (a 54)]))]) (QI (-2)) 0 0 NoF := by
  refine Met.ofW (cc := cX11_sits) (maxL := 3) (ret := (some .int)) (by decide) rfl ?_
  intro p e s m args below meth c s₁ B hml hv
  obtain ⟨rfl, hP, hK, hN⟩ := hv
  have hx := B.exec
  have hb := B.bytes
  have hr := B.returns
  have hts : ∀ w ∈ TB, w.before _ s = true := fun w h => atoms_spec (ws := wd yX11_sits cX11_sits 3 (some .int)) B.pre w (List.mem_cons_of_mem _ h)
  have hown : s.vm.findClass RX11 = some m.cls := findClass_of_methodNamed B.named
  have hlocks := B.notSynchronized
  have hF : CallFix p m c cX11_sits 3 s _ TB RX11 := ⟨hx, hb, hml, hown, hts⟩
  have hl := lv_entry ([.ref (a 0), .int x, .int y]) (n := 3) (Nat.le_of_ble_eq_true rfl)
  rw [lg_entry_eq]
  generalize (lg_sl ([.ref (a 0), .int x, .int y]) ++ List.replicate (3 - (lg_sl ([.ref (a 0), .int x, .int y])).length) Slot.unset).toArray = ls at hl ⊢
  have hl : lv_has ls 3 [(0, .ref (a 0)), (1, .int x), (2, .int y)] := hl
  have hS : va_S NoF s.heap s.heap [] := va_S.rf
  have hP : va_P D classes [(a 0, .inr (11, [.ref (a 1), .ref (a 20), .ref (a 3), .ref (a 40), .ref (a 4), .int 0, .ref (a 5), .ref (a 14), .ref (a 15), .ref (a 16), .ref (a 17), .ref (a 18)])), (a 40, .inr (0, [.int 0, .int 0, .int 0, .int 0, .int 0, .int 0, .int 0, .int 0, .ref (a 41), .ref (a 42), .ref (a 43), .ref (a 44), .ref (a 45), .ref (a 46), .ref (a 47), .ref (a 48), .ref (a 49), .ref (a 50), .ref (a 54)]))] s.heap := hP
  refine lv_aload_n hx hb dX11_sits_0 rfl (lv_at hl 0 rfl) ?_
  refine va_get (D := D) (ci := 11) (v := .ref (a 40)) (C := RX11) (T := TX11) (N := 12) hx hb hts iX11 hown hK hP 0 rfl rfl 3 (by decide) (hts _ m_436) (fun _ h9 => h9) rfl dX11_sits_1 ?_
  refine lv_iload_n hx hb dX11_sits_4 rfl (lv_at hl 1 rfl) ?_
  refine x_pV hF (c_X0_hasDistrict l D t a x) m_721 m_722 m_723 m_3 m_724 hd_X0_hasDistrict ⟨Nat.le_of_ble_eq_true rfl, Nat.le_of_ble_eq_true rfl⟩ hK hN hP hS [1] rfl 0 (ci := 0) rfl rfl rfl hl.1 rfl (Nat.le_of_ble_eq_true rfl) dX11_sits_5 ⟨Nat.zero_le _, Nat.zero_le _⟩ (fun H locs hP hS => ?_)
  refine lv_if_eq (tgt := 18) hx hb dX11_sits_8 (by decide) (fun _ => ?_) (fun c9 => absurd (by decide) c9)
  refine lv_bipush (v := (-2)) hx hb dX11_sits_18 (by decide) ?_
  exact W.iret (v := (-2)) hx hb hr (fun t9 ht hW => ⟨⟨(-2), (), rfl, rfl, trivial⟩, hS.F ht⟩) hS.2.2 dX11_sits_20

set_option maxHeartbeats 4000000 in
set_option maxRecDepth 100000 in
theorem c_X11_with (l : Launch) (D : va_G) (t : Nat → ClassId) (a : Nat → Nat) (x : Int32) (y : Int32) : Met l yX11_with (wd yX11_with cX11_with 3 (some .int)) (RM 2 0 0) (PreP D (TY t) [.ref (a 0), .int x, .int y] [(a 0, .inr (11, [.ref (a 1), .ref (a 20), .ref (a 3), .ref (a 40), .ref (a 4), .int 0, .ref (a 5), .ref (a 14), .ref (a 15), .ref (a 16), .ref (a 17), .ref (a 18)])), (a 40, .inr (0, [.int 0, .int 0, .int 0, .int 0, .int 0, .int 0, .int 0, .int 0, .ref (a 41), .ref (a 42), .ref (a 43), .ref (a 44), .ref (a 45), .ref (a 46), .ref (a 47), .ref (a 48), .ref (a 49), .ref (a 50), .ref (a 54)]))]) (QI (-2)) 0 0 NoF := by
  refine Met.ofW (cc := cX11_with) (maxL := 3) (ret := (some .int)) (by decide) rfl ?_
  intro p e s m args below meth c s₁ B hml hv
  obtain ⟨rfl, hP, hK, hN⟩ := hv
  have hx := B.exec
  have hb := B.bytes
  have hr := B.returns
  have hts : ∀ w ∈ TB, w.before _ s = true := fun w h => atoms_spec (ws := wd yX11_with cX11_with 3 (some .int)) B.pre w (List.mem_cons_of_mem _ h)
  have hown : s.vm.findClass RX11 = some m.cls := findClass_of_methodNamed B.named
  have hlocks := B.notSynchronized
  have hF : CallFix p m c cX11_with 3 s _ TB RX11 := ⟨hx, hb, hml, hown, hts⟩
  have hl := lv_entry ([.ref (a 0), .int x, .int y]) (n := 3) (Nat.le_of_ble_eq_true rfl)
  rw [lg_entry_eq]
  generalize (lg_sl ([.ref (a 0), .int x, .int y]) ++ List.replicate (3 - (lg_sl ([.ref (a 0), .int x, .int y])).length) Slot.unset).toArray = ls at hl ⊢
  have hl : lv_has ls 3 [(0, .ref (a 0)), (1, .int x), (2, .int y)] := hl
  have hS : va_S NoF s.heap s.heap [] := va_S.rf
  have hP : va_P D classes [(a 0, .inr (11, [.ref (a 1), .ref (a 20), .ref (a 3), .ref (a 40), .ref (a 4), .int 0, .ref (a 5), .ref (a 14), .ref (a 15), .ref (a 16), .ref (a 17), .ref (a 18)])), (a 40, .inr (0, [.int 0, .int 0, .int 0, .int 0, .int 0, .int 0, .int 0, .int 0, .ref (a 41), .ref (a 42), .ref (a 43), .ref (a 44), .ref (a 45), .ref (a 46), .ref (a 47), .ref (a 48), .ref (a 49), .ref (a 50), .ref (a 54)]))] s.heap := hP
  refine lv_aload_n hx hb dX11_with_0 rfl (lv_at hl 0 rfl) ?_
  refine va_get (D := D) (ci := 11) (v := .ref (a 40)) (C := RX11) (T := TX11) (N := 12) hx hb hts iX11 hown hK hP 0 rfl rfl 3 (by decide) (hts _ m_436) (fun _ h9 => h9) rfl dX11_with_1 ?_
  refine lv_iload_n hx hb dX11_with_4 rfl (lv_at hl 1 rfl) ?_
  refine x_pV hF (c_X0_hasDistrict l D t a x) m_721 m_722 m_723 m_3 m_724 hd_X0_hasDistrict ⟨Nat.le_of_ble_eq_true rfl, Nat.le_of_ble_eq_true rfl⟩ hK hN hP hS [1] rfl 0 (ci := 0) rfl rfl rfl hl.1 rfl (Nat.le_of_ble_eq_true rfl) dX11_with_5 ⟨Nat.zero_le _, Nat.zero_le _⟩ (fun H locs hP hS => ?_)
  refine lv_if_eq (tgt := 18) hx hb dX11_with_8 (by decide) (fun _ => ?_) (fun c9 => absurd (by decide) c9)
  refine lv_bipush (v := (-2)) hx hb dX11_with_18 (by decide) ?_
  exact W.iret (v := (-2)) hx hb hr (fun t9 ht hW => ⟨⟨(-2), (), rfl, rfl, trivial⟩, hS.F ht⟩) hS.2.2 dX11_with_20

set_option maxHeartbeats 4000000 in
set_option maxRecDepth 100000 in
theorem c_X11_struck (l : Launch) (D : va_G) (t : Nat → ClassId) (a : Nat → Nat) (x : Int32) (y : Int32) : Met l yX11_struck (wd yX11_struck cX11_struck 3 (some .int)) (RM 2 0 0) (PreP D (TY t) [.ref (a 0), .int x, .int y] [(a 0, .inr (11, [.ref (a 1), .ref (a 20), .ref (a 3), .ref (a 40), .ref (a 4), .int 0, .ref (a 5), .ref (a 14), .ref (a 15), .ref (a 16), .ref (a 17), .ref (a 18)])), (a 40, .inr (0, [.int 0, .int 0, .int 0, .int 0, .int 0, .int 0, .int 0, .int 0, .ref (a 41), .ref (a 42), .ref (a 43), .ref (a 44), .ref (a 45), .ref (a 46), .ref (a 47), .ref (a 48), .ref (a 49), .ref (a 50), .ref (a 54)]))]) (QI (-2)) 0 0 NoF := by
  refine Met.ofW (cc := cX11_struck) (maxL := 3) (ret := (some .int)) (by decide) rfl ?_
  intro p e s m args below meth c s₁ B hml hv
  obtain ⟨rfl, hP, hK, hN⟩ := hv
  have hx := B.exec
  have hb := B.bytes
  have hr := B.returns
  have hts : ∀ w ∈ TB, w.before _ s = true := fun w h => atoms_spec (ws := wd yX11_struck cX11_struck 3 (some .int)) B.pre w (List.mem_cons_of_mem _ h)
  have hown : s.vm.findClass RX11 = some m.cls := findClass_of_methodNamed B.named
  have hlocks := B.notSynchronized
  have hF : CallFix p m c cX11_struck 3 s _ TB RX11 := ⟨hx, hb, hml, hown, hts⟩
  have hl := lv_entry ([.ref (a 0), .int x, .int y]) (n := 3) (Nat.le_of_ble_eq_true rfl)
  rw [lg_entry_eq]
  generalize (lg_sl ([.ref (a 0), .int x, .int y]) ++ List.replicate (3 - (lg_sl ([.ref (a 0), .int x, .int y])).length) Slot.unset).toArray = ls at hl ⊢
  have hl : lv_has ls 3 [(0, .ref (a 0)), (1, .int x), (2, .int y)] := hl
  have hS : va_S NoF s.heap s.heap [] := va_S.rf
  have hP : va_P D classes [(a 0, .inr (11, [.ref (a 1), .ref (a 20), .ref (a 3), .ref (a 40), .ref (a 4), .int 0, .ref (a 5), .ref (a 14), .ref (a 15), .ref (a 16), .ref (a 17), .ref (a 18)])), (a 40, .inr (0, [.int 0, .int 0, .int 0, .int 0, .int 0, .int 0, .int 0, .int 0, .ref (a 41), .ref (a 42), .ref (a 43), .ref (a 44), .ref (a 45), .ref (a 46), .ref (a 47), .ref (a 48), .ref (a 49), .ref (a 50), .ref (a 54)]))] s.heap := hP
  refine lv_aload_n hx hb dX11_struck_0 rfl (lv_at hl 0 rfl) ?_
  refine va_get (D := D) (ci := 11) (v := .ref (a 40)) (C := RX11) (T := TX11) (N := 12) hx hb hts iX11 hown hK hP 0 rfl rfl 3 (by decide) (hts _ m_436) (fun _ h9 => h9) rfl dX11_struck_1 ?_
  refine lv_iload_n hx hb dX11_struck_4 rfl (lv_at hl 1 rfl) ?_
  refine x_pV hF (c_X0_hasDistrict l D t a x) m_721 m_722 m_723 m_3 m_724 hd_X0_hasDistrict ⟨Nat.le_of_ble_eq_true rfl, Nat.le_of_ble_eq_true rfl⟩ hK hN hP hS [1] rfl 0 (ci := 0) rfl rfl rfl hl.1 rfl (Nat.le_of_ble_eq_true rfl) dX11_struck_5 ⟨Nat.zero_le _, Nat.zero_le _⟩ (fun H locs hP hS => ?_)
  refine lv_if_ne (tgt := 14) hx hb dX11_struck_8 (by decide) (fun c9 => absurd c9 (by decide)) (fun _ => ?_)
  refine lv_bipush (v := (-2)) hx hb dX11_struck_11 (by decide) ?_
  exact W.iret (v := (-2)) hx hb hr (fun t9 ht hW => ⟨⟨(-2), (), rfl, rfl, trivial⟩, hS.F ht⟩) hS.2.2 dX11_struck_13

set_option maxHeartbeats 4000000 in
set_option maxRecDepth 100000 in
theorem c_X11_beats (l : Launch) (D : va_G) (t : Nat → ClassId) (a : Nat → Nat) (x : Int32) (y : Int32) : Met l yX11_beats (wd yX11_beats cX11_beats 3 (some .int)) (RM 2 0 0) (PreP D (TY t) [.ref (a 0), .int x, .int y] [(a 0, .inr (11, [.ref (a 1), .ref (a 20), .ref (a 3), .ref (a 40), .ref (a 4), .int 0, .ref (a 5), .ref (a 14), .ref (a 15), .ref (a 16), .ref (a 17), .ref (a 18)])), (a 40, .inr (0, [.int 0, .int 0, .int 0, .int 0, .int 0, .int 0, .int 0, .int 0, .ref (a 41), .ref (a 42), .ref (a 43), .ref (a 44), .ref (a 45), .ref (a 46), .ref (a 47), .ref (a 48), .ref (a 49), .ref (a 50), .ref (a 54)]))]) (QI (-2)) 0 0 NoF := by
  refine Met.ofW (cc := cX11_beats) (maxL := 3) (ret := (some .int)) (by decide) rfl ?_
  intro p e s m args below meth c s₁ B hml hv
  obtain ⟨rfl, hP, hK, hN⟩ := hv
  have hx := B.exec
  have hb := B.bytes
  have hr := B.returns
  have hts : ∀ w ∈ TB, w.before _ s = true := fun w h => atoms_spec (ws := wd yX11_beats cX11_beats 3 (some .int)) B.pre w (List.mem_cons_of_mem _ h)
  have hown : s.vm.findClass RX11 = some m.cls := findClass_of_methodNamed B.named
  have hlocks := B.notSynchronized
  have hF : CallFix p m c cX11_beats 3 s _ TB RX11 := ⟨hx, hb, hml, hown, hts⟩
  have hl := lv_entry ([.ref (a 0), .int x, .int y]) (n := 3) (Nat.le_of_ble_eq_true rfl)
  rw [lg_entry_eq]
  generalize (lg_sl ([.ref (a 0), .int x, .int y]) ++ List.replicate (3 - (lg_sl ([.ref (a 0), .int x, .int y])).length) Slot.unset).toArray = ls at hl ⊢
  have hl : lv_has ls 3 [(0, .ref (a 0)), (1, .int x), (2, .int y)] := hl
  have hS : va_S NoF s.heap s.heap [] := va_S.rf
  have hP : va_P D classes [(a 0, .inr (11, [.ref (a 1), .ref (a 20), .ref (a 3), .ref (a 40), .ref (a 4), .int 0, .ref (a 5), .ref (a 14), .ref (a 15), .ref (a 16), .ref (a 17), .ref (a 18)])), (a 40, .inr (0, [.int 0, .int 0, .int 0, .int 0, .int 0, .int 0, .int 0, .int 0, .ref (a 41), .ref (a 42), .ref (a 43), .ref (a 44), .ref (a 45), .ref (a 46), .ref (a 47), .ref (a 48), .ref (a 49), .ref (a 50), .ref (a 54)]))] s.heap := hP
  refine lv_aload_n hx hb dX11_beats_0 rfl (lv_at hl 0 rfl) ?_
  refine va_get (D := D) (ci := 11) (v := .ref (a 40)) (C := RX11) (T := TX11) (N := 12) hx hb hts iX11 hown hK hP 0 rfl rfl 3 (by decide) (hts _ m_436) (fun _ h9 => h9) rfl dX11_beats_1 ?_
  refine lv_iload_n hx hb dX11_beats_4 rfl (lv_at hl 1 rfl) ?_
  refine x_pV hF (c_X0_hasWord l D t a x) m_702 m_703 m_704 m_3 m_705 hd_X0_hasWord ⟨Nat.le_of_ble_eq_true rfl, Nat.le_of_ble_eq_true rfl⟩ hK hN hP hS [1] rfl 0 (ci := 0) rfl rfl rfl hl.1 rfl (Nat.le_of_ble_eq_true rfl) dX11_beats_5 ⟨Nat.zero_le _, Nat.zero_le _⟩ (fun H locs hP hS => ?_)
  refine lv_if_eq (tgt := 27) hx hb dX11_beats_8 (by decide) (fun _ => ?_) (fun c9 => absurd (by decide) c9)
  refine lv_bipush (v := (-2)) hx hb dX11_beats_27 (by decide) ?_
  exact W.iret (v := (-2)) hx hb hr (fun t9 ht hW => ⟨⟨(-2), (), rfl, rfl, trivial⟩, hS.F ht⟩) hS.2.2 dX11_beats_29

set_option maxHeartbeats 4000000 in
set_option maxRecDepth 100000 in
theorem c_X11_best (l : Launch) (D : va_G) (t : Nat → ClassId) (a : Nat → Nat) (x : Int32) : Met l yX11_best (wd yX11_best cX11_best 2 (some .int)) (RM 2 0 0) (PreP D (TY t) [.ref (a 0), .int x] [(a 0, .inr (11, [.ref (a 1), .ref (a 20), .ref (a 3), .ref (a 40), .ref (a 4), .int 0, .ref (a 5), .ref (a 14), .ref (a 15), .ref (a 16), .ref (a 17), .ref (a 18)])), (a 40, .inr (0, [.int 0, .int 0, .int 0, .int 0, .int 0, .int 0, .int 0, .int 0, .ref (a 41), .ref (a 42), .ref (a 43), .ref (a 44), .ref (a 45), .ref (a 46), .ref (a 47), .ref (a 48), .ref (a 49), .ref (a 50), .ref (a 54)]))]) (QI (-2)) 0 0 NoF := by
  refine Met.ofW (cc := cX11_best) (maxL := 2) (ret := (some .int)) (by decide) rfl ?_
  intro p e s m args below meth c s₁ B hml hv
  obtain ⟨rfl, hP, hK, hN⟩ := hv
  have hx := B.exec
  have hb := B.bytes
  have hr := B.returns
  have hts : ∀ w ∈ TB, w.before _ s = true := fun w h => atoms_spec (ws := wd yX11_best cX11_best 2 (some .int)) B.pre w (List.mem_cons_of_mem _ h)
  have hown : s.vm.findClass RX11 = some m.cls := findClass_of_methodNamed B.named
  have hlocks := B.notSynchronized
  have hF : CallFix p m c cX11_best 2 s _ TB RX11 := ⟨hx, hb, hml, hown, hts⟩
  have hl := lv_entry ([.ref (a 0), .int x]) (n := 2) (Nat.le_of_ble_eq_true rfl)
  rw [lg_entry_eq]
  generalize (lg_sl ([.ref (a 0), .int x]) ++ List.replicate (2 - (lg_sl ([.ref (a 0), .int x])).length) Slot.unset).toArray = ls at hl ⊢
  have hl : lv_has ls 2 [(0, .ref (a 0)), (1, .int x)] := hl
  have hS : va_S NoF s.heap s.heap [] := va_S.rf
  have hP : va_P D classes [(a 0, .inr (11, [.ref (a 1), .ref (a 20), .ref (a 3), .ref (a 40), .ref (a 4), .int 0, .ref (a 5), .ref (a 14), .ref (a 15), .ref (a 16), .ref (a 17), .ref (a 18)])), (a 40, .inr (0, [.int 0, .int 0, .int 0, .int 0, .int 0, .int 0, .int 0, .int 0, .ref (a 41), .ref (a 42), .ref (a 43), .ref (a 44), .ref (a 45), .ref (a 46), .ref (a 47), .ref (a 48), .ref (a 49), .ref (a 50), .ref (a 54)]))] s.heap := hP
  refine lv_aload_n hx hb dX11_best_0 rfl (lv_at hl 0 rfl) ?_
  refine va_get (D := D) (ci := 11) (v := .ref (a 40)) (C := RX11) (T := TX11) (N := 12) hx hb hts iX11 hown hK hP 0 rfl rfl 3 (by decide) (hts _ m_436) (fun _ h9 => h9) rfl dX11_best_1 ?_
  refine lv_iload_n hx hb dX11_best_4 rfl (lv_at hl 1 rfl) ?_
  refine x_pV hF (c_X0_hasDistrict l D t a x) m_721 m_722 m_723 m_3 m_724 hd_X0_hasDistrict ⟨Nat.le_of_ble_eq_true rfl, Nat.le_of_ble_eq_true rfl⟩ hK hN hP hS [1] rfl 0 (ci := 0) rfl rfl rfl hl.1 rfl (Nat.le_of_ble_eq_true rfl) dX11_best_5 ⟨Nat.zero_le _, Nat.zero_le _⟩ (fun H locs hP hS => ?_)
  refine lv_if_ne (tgt := 14) hx hb dX11_best_8 (by decide) (fun c9 => absurd c9 (by decide)) (fun _ => ?_)
  refine lv_bipush (v := (-2)) hx hb dX11_best_11 (by decide) ?_
  exact W.iret (v := (-2)) hx hb hr (fun t9 ht hW => ⟨⟨(-2), (), rfl, rfl, trivial⟩, hS.F ht⟩) hS.2.2 dX11_best_13

set_option maxHeartbeats 4000000 in
set_option maxRecDepth 100000 in
theorem c_X11_unlike (l : Launch) (D : va_G) (t : Nat → ClassId) (a : Nat → Nat) (x : Int32) (y : Int32) : Met l yX11_unlike (wd yX11_unlike cX11_unlike 5 (some .int)) (RM 2 0 0) (PreP D (TY t) [.ref (a 0), .int x, .int y] [(a 0, .inr (11, [.ref (a 1), .ref (a 20), .ref (a 3), .ref (a 40), .ref (a 4), .int 0, .ref (a 5), .ref (a 14), .ref (a 15), .ref (a 16), .ref (a 17), .ref (a 18)])), (a 40, .inr (0, [.int 0, .int 0, .int 0, .int 0, .int 0, .int 0, .int 0, .int 0, .ref (a 41), .ref (a 42), .ref (a 43), .ref (a 44), .ref (a 45), .ref (a 46), .ref (a 47), .ref (a 48), .ref (a 49), .ref (a 50), .ref (a 54)]))]) (QI (-2)) 0 0 NoF := by
  refine Met.ofW (cc := cX11_unlike) (maxL := 5) (ret := (some .int)) (by decide) rfl ?_
  intro p e s m args below meth c s₁ B hml hv
  obtain ⟨rfl, hP, hK, hN⟩ := hv
  have hx := B.exec
  have hb := B.bytes
  have hr := B.returns
  have hts : ∀ w ∈ TB, w.before _ s = true := fun w h => atoms_spec (ws := wd yX11_unlike cX11_unlike 5 (some .int)) B.pre w (List.mem_cons_of_mem _ h)
  have hown : s.vm.findClass RX11 = some m.cls := findClass_of_methodNamed B.named
  have hlocks := B.notSynchronized
  have hF : CallFix p m c cX11_unlike 5 s _ TB RX11 := ⟨hx, hb, hml, hown, hts⟩
  have hl := lv_entry ([.ref (a 0), .int x, .int y]) (n := 5) (Nat.le_of_ble_eq_true rfl)
  rw [lg_entry_eq]
  generalize (lg_sl ([.ref (a 0), .int x, .int y]) ++ List.replicate (5 - (lg_sl ([.ref (a 0), .int x, .int y])).length) Slot.unset).toArray = ls at hl ⊢
  have hl : lv_has ls 5 [(0, .ref (a 0)), (1, .int x), (2, .int y)] := hl
  have hS : va_S NoF s.heap s.heap [] := va_S.rf
  have hP : va_P D classes [(a 0, .inr (11, [.ref (a 1), .ref (a 20), .ref (a 3), .ref (a 40), .ref (a 4), .int 0, .ref (a 5), .ref (a 14), .ref (a 15), .ref (a 16), .ref (a 17), .ref (a 18)])), (a 40, .inr (0, [.int 0, .int 0, .int 0, .int 0, .int 0, .int 0, .int 0, .int 0, .ref (a 41), .ref (a 42), .ref (a 43), .ref (a 44), .ref (a 45), .ref (a 46), .ref (a 47), .ref (a 48), .ref (a 49), .ref (a 50), .ref (a 54)]))] s.heap := hP
  refine lv_aload_n hx hb dX11_unlike_0 rfl (lv_at hl 0 rfl) ?_
  refine va_get (D := D) (ci := 11) (v := .ref (a 40)) (C := RX11) (T := TX11) (N := 12) hx hb hts iX11 hown hK hP 0 rfl rfl 3 (by decide) (hts _ m_436) (fun _ h9 => h9) rfl dX11_unlike_1 ?_
  refine x_pV hF (c_X0_isNone l D t a) m_892 m_893 m_894 m_3 m_895 hd_X0_isNone ⟨Nat.le_of_ble_eq_true rfl, Nat.le_of_ble_eq_true rfl⟩ hK hN hP hS [1] rfl 0 (ci := 0) rfl rfl rfl hl.1 rfl (Nat.le_of_ble_eq_true rfl) dX11_unlike_4 ⟨Nat.zero_le _, Nat.zero_le _⟩ (fun H locs hP hS => ?_)
  refine lv_if_ne (tgt := 24) hx hb dX11_unlike_7 (by decide) (fun _ => ?_) (fun c9 => absurd c9 (by decide))
  refine lv_bipush (v := (-2)) hx hb dX11_unlike_24 (by decide) ?_
  exact W.iret (v := (-2)) hx hb hr (fun t9 ht hW => ⟨⟨(-2), (), rfl, rfl, trivial⟩, hS.F ht⟩) hS.2.2 dX11_unlike_26

set_option maxHeartbeats 4000000 in
set_option maxRecDepth 100000 in
theorem c_X11_synonyms (l : Launch) (D : va_G) (t : Nat → ClassId) (a : Nat → Nat) (x : Int32) : Met l yX11_synonyms (wd yX11_synonyms cX11_synonyms 5 (some .int)) (RM 2 0 0) (PreP D (TY t) [.ref (a 0), .int x] [(a 0, .inr (11, [.ref (a 1), .ref (a 20), .ref (a 3), .ref (a 40), .ref (a 4), .int 0, .ref (a 5), .ref (a 14), .ref (a 15), .ref (a 16), .ref (a 17), .ref (a 18)])), (a 40, .inr (0, [.int 0, .int 0, .int 0, .int 0, .int 0, .int 0, .int 0, .int 0, .ref (a 41), .ref (a 42), .ref (a 43), .ref (a 44), .ref (a 45), .ref (a 46), .ref (a 47), .ref (a 48), .ref (a 49), .ref (a 50), .ref (a 54)]))]) (QI (-2)) 0 0 NoF := by
  refine Met.ofW (cc := cX11_synonyms) (maxL := 5) (ret := (some .int)) (by decide) rfl ?_
  intro p e s m args below meth c s₁ B hml hv
  obtain ⟨rfl, hP, hK, hN⟩ := hv
  have hx := B.exec
  have hb := B.bytes
  have hr := B.returns
  have hts : ∀ w ∈ TB, w.before _ s = true := fun w h => atoms_spec (ws := wd yX11_synonyms cX11_synonyms 5 (some .int)) B.pre w (List.mem_cons_of_mem _ h)
  have hown : s.vm.findClass RX11 = some m.cls := findClass_of_methodNamed B.named
  have hlocks := B.notSynchronized
  have hF : CallFix p m c cX11_synonyms 5 s _ TB RX11 := ⟨hx, hb, hml, hown, hts⟩
  have hl := lv_entry ([.ref (a 0), .int x]) (n := 5) (Nat.le_of_ble_eq_true rfl)
  rw [lg_entry_eq]
  generalize (lg_sl ([.ref (a 0), .int x]) ++ List.replicate (5 - (lg_sl ([.ref (a 0), .int x])).length) Slot.unset).toArray = ls at hl ⊢
  have hl : lv_has ls 5 [(0, .ref (a 0)), (1, .int x)] := hl
  have hS : va_S NoF s.heap s.heap [] := va_S.rf
  have hP : va_P D classes [(a 0, .inr (11, [.ref (a 1), .ref (a 20), .ref (a 3), .ref (a 40), .ref (a 4), .int 0, .ref (a 5), .ref (a 14), .ref (a 15), .ref (a 16), .ref (a 17), .ref (a 18)])), (a 40, .inr (0, [.int 0, .int 0, .int 0, .int 0, .int 0, .int 0, .int 0, .int 0, .ref (a 41), .ref (a 42), .ref (a 43), .ref (a 44), .ref (a 45), .ref (a 46), .ref (a 47), .ref (a 48), .ref (a 49), .ref (a 50), .ref (a 54)]))] s.heap := hP
  refine lv_aload_n hx hb dX11_synonyms_0 rfl (lv_at hl 0 rfl) ?_
  refine va_get (D := D) (ci := 11) (v := .ref (a 40)) (C := RX11) (T := TX11) (N := 12) hx hb hts iX11 hown hK hP 0 rfl rfl 3 (by decide) (hts _ m_436) (fun _ h9 => h9) rfl dX11_synonyms_1 ?_
  refine lv_iload_n hx hb dX11_synonyms_4 rfl (lv_at hl 1 rfl) ?_
  refine x_pV hF (c_X0_hasWord l D t a x) m_702 m_703 m_704 m_3 m_705 hd_X0_hasWord ⟨Nat.le_of_ble_eq_true rfl, Nat.le_of_ble_eq_true rfl⟩ hK hN hP hS [1] rfl 0 (ci := 0) rfl rfl rfl hl.1 rfl (Nat.le_of_ble_eq_true rfl) dX11_synonyms_5 ⟨Nat.zero_le _, Nat.zero_le _⟩ (fun H locs hP hS => ?_)
  refine lv_if_ne (tgt := 14) hx hb dX11_synonyms_8 (by decide) (fun c9 => absurd c9 (by decide)) (fun _ => ?_)
  refine lv_bipush (v := (-2)) hx hb dX11_synonyms_11 (by decide) ?_
  exact W.iret (v := (-2)) hx hb hr (fun t9 ht hW => ⟨⟨(-2), (), rfl, rfl, trivial⟩, hS.F ht⟩) hS.2.2 dX11_synonyms_13

set_option maxHeartbeats 4000000 in
set_option maxRecDepth 100000 in
theorem c_X11_spoils (l : Launch) (D : va_G) (t : Nat → ClassId) (a : Nat → Nat) (x : Int32) : Met l yX11_spoils (wd yX11_spoils cX11_spoils 2 (some .int)) (RM 2 0 0) (PreP D (TY t) [.ref (a 0), .int x] [(a 0, .inr (11, [.ref (a 1), .ref (a 20), .ref (a 3), .ref (a 40), .ref (a 4), .int 0, .ref (a 5), .ref (a 14), .ref (a 15), .ref (a 16), .ref (a 17), .ref (a 18)])), (a 40, .inr (0, [.int 0, .int 0, .int 0, .int 0, .int 0, .int 0, .int 0, .int 0, .ref (a 41), .ref (a 42), .ref (a 43), .ref (a 44), .ref (a 45), .ref (a 46), .ref (a 47), .ref (a 48), .ref (a 49), .ref (a 50), .ref (a 54)]))]) (QI (-2)) 0 0 NoF := by
  refine Met.ofW (cc := cX11_spoils) (maxL := 2) (ret := (some .int)) (by decide) rfl ?_
  intro p e s m args below meth c s₁ B hml hv
  obtain ⟨rfl, hP, hK, hN⟩ := hv
  have hx := B.exec
  have hb := B.bytes
  have hr := B.returns
  have hts : ∀ w ∈ TB, w.before _ s = true := fun w h => atoms_spec (ws := wd yX11_spoils cX11_spoils 2 (some .int)) B.pre w (List.mem_cons_of_mem _ h)
  have hown : s.vm.findClass RX11 = some m.cls := findClass_of_methodNamed B.named
  have hlocks := B.notSynchronized
  have hF : CallFix p m c cX11_spoils 2 s _ TB RX11 := ⟨hx, hb, hml, hown, hts⟩
  have hl := lv_entry ([.ref (a 0), .int x]) (n := 2) (Nat.le_of_ble_eq_true rfl)
  rw [lg_entry_eq]
  generalize (lg_sl ([.ref (a 0), .int x]) ++ List.replicate (2 - (lg_sl ([.ref (a 0), .int x])).length) Slot.unset).toArray = ls at hl ⊢
  have hl : lv_has ls 2 [(0, .ref (a 0)), (1, .int x)] := hl
  have hS : va_S NoF s.heap s.heap [] := va_S.rf
  have hP : va_P D classes [(a 0, .inr (11, [.ref (a 1), .ref (a 20), .ref (a 3), .ref (a 40), .ref (a 4), .int 0, .ref (a 5), .ref (a 14), .ref (a 15), .ref (a 16), .ref (a 17), .ref (a 18)])), (a 40, .inr (0, [.int 0, .int 0, .int 0, .int 0, .int 0, .int 0, .int 0, .int 0, .ref (a 41), .ref (a 42), .ref (a 43), .ref (a 44), .ref (a 45), .ref (a 46), .ref (a 47), .ref (a 48), .ref (a 49), .ref (a 50), .ref (a 54)]))] s.heap := hP
  refine lv_aload_n hx hb dX11_spoils_0 rfl (lv_at hl 0 rfl) ?_
  refine va_get (D := D) (ci := 11) (v := .ref (a 40)) (C := RX11) (T := TX11) (N := 12) hx hb hts iX11 hown hK hP 0 rfl rfl 3 (by decide) (hts _ m_436) (fun _ h9 => h9) rfl dX11_spoils_1 ?_
  refine lv_iload_n hx hb dX11_spoils_4 rfl (lv_at hl 1 rfl) ?_
  refine x_pV hF (c_X0_hasWord l D t a x) m_702 m_703 m_704 m_3 m_705 hd_X0_hasWord ⟨Nat.le_of_ble_eq_true rfl, Nat.le_of_ble_eq_true rfl⟩ hK hN hP hS [1] rfl 0 (ci := 0) rfl rfl rfl hl.1 rfl (Nat.le_of_ble_eq_true rfl) dX11_spoils_5 ⟨Nat.zero_le _, Nat.zero_le _⟩ (fun H locs hP hS => ?_)
  refine lv_if_eq (tgt := 28) hx hb dX11_spoils_8 (by decide) (fun _ => ?_) (fun c9 => absurd (by decide) c9)
  refine lv_bipush (v := (-2)) hx hb dX11_spoils_28 (by decide) ?_
  exact W.iret (v := (-2)) hx hb hr (fun t9 ht hW => ⟨⟨(-2), (), rfl, rfl, trivial⟩, hS.F ht⟩) hS.2.2 dX11_spoils_30

set_option maxHeartbeats 4000000 in
set_option maxRecDepth 100000 in
theorem c_X11_spoilers (l : Launch) (D : va_G) (t : Nat → ClassId) (a : Nat → Nat) : Met l yX11_spoilers (wd yX11_spoilers cX11_spoilers 1 (some .int)) (RM 2 0 0) (PreP D (TY t) [.ref (a 0)] [(a 0, .inr (11, [.ref (a 1), .ref (a 20), .ref (a 3), .ref (a 40), .ref (a 4), .int 0, .ref (a 5), .ref (a 14), .ref (a 15), .ref (a 16), .ref (a 17), .ref (a 18)])), (a 40, .inr (0, [.int 0, .int 0, .int 0, .int 0, .int 0, .int 0, .int 0, .int 0, .ref (a 41), .ref (a 42), .ref (a 43), .ref (a 44), .ref (a 45), .ref (a 46), .ref (a 47), .ref (a 48), .ref (a 49), .ref (a 50), .ref (a 54)]))]) (QI (-2)) 0 0 NoF := by
  refine Met.ofW (cc := cX11_spoilers) (maxL := 1) (ret := (some .int)) (by decide) rfl ?_
  intro p e s m args below meth c s₁ B hml hv
  obtain ⟨rfl, hP, hK, hN⟩ := hv
  have hx := B.exec
  have hb := B.bytes
  have hr := B.returns
  have hts : ∀ w ∈ TB, w.before _ s = true := fun w h => atoms_spec (ws := wd yX11_spoilers cX11_spoilers 1 (some .int)) B.pre w (List.mem_cons_of_mem _ h)
  have hown : s.vm.findClass RX11 = some m.cls := findClass_of_methodNamed B.named
  have hlocks := B.notSynchronized
  have hF : CallFix p m c cX11_spoilers 1 s _ TB RX11 := ⟨hx, hb, hml, hown, hts⟩
  have hl := lv_entry ([.ref (a 0)]) (n := 1) (Nat.le_of_ble_eq_true rfl)
  rw [lg_entry_eq]
  generalize (lg_sl ([.ref (a 0)]) ++ List.replicate (1 - (lg_sl ([.ref (a 0)])).length) Slot.unset).toArray = ls at hl ⊢
  have hl : lv_has ls 1 [(0, .ref (a 0))] := hl
  have hS : va_S NoF s.heap s.heap [] := va_S.rf
  have hP : va_P D classes [(a 0, .inr (11, [.ref (a 1), .ref (a 20), .ref (a 3), .ref (a 40), .ref (a 4), .int 0, .ref (a 5), .ref (a 14), .ref (a 15), .ref (a 16), .ref (a 17), .ref (a 18)])), (a 40, .inr (0, [.int 0, .int 0, .int 0, .int 0, .int 0, .int 0, .int 0, .int 0, .ref (a 41), .ref (a 42), .ref (a 43), .ref (a 44), .ref (a 45), .ref (a 46), .ref (a 47), .ref (a 48), .ref (a 49), .ref (a 50), .ref (a 54)]))] s.heap := hP
  refine lv_aload_n hx hb dX11_spoilers_0 rfl (lv_at hl 0 rfl) ?_
  refine va_get (D := D) (ci := 11) (v := .ref (a 40)) (C := RX11) (T := TX11) (N := 12) hx hb hts iX11 hown hK hP 0 rfl rfl 3 (by decide) (hts _ m_436) (fun _ h9 => h9) rfl dX11_spoilers_1 ?_
  refine x_pV hF (c_X0_isNone l D t a) m_892 m_893 m_894 m_3 m_895 hd_X0_isNone ⟨Nat.le_of_ble_eq_true rfl, Nat.le_of_ble_eq_true rfl⟩ hK hN hP hS [1] rfl 0 (ci := 0) rfl rfl rfl hl.1 rfl (Nat.le_of_ble_eq_true rfl) dX11_spoilers_4 ⟨Nat.zero_le _, Nat.zero_le _⟩ (fun H locs hP hS => ?_)
  refine lv_if_eq (tgt := 15) hx hb dX11_spoilers_7 (by decide) (fun c9 => absurd c9 (by decide)) (fun _ => ?_)
  refine lv_bipush (v := (-2)) hx hb dX11_spoilers_10 (by decide) ?_
  refine lv_goto (tgt := 22) hx hb dX11_spoilers_12 (by decide) ?_
  exact W.iret (v := (-2)) hx hb hr (fun t9 ht hW => ⟨⟨(-2), (), rfl, rfl, trivial⟩, hS.F ht⟩) hS.2.2 dX11_spoilers_22

set_option maxHeartbeats 4000000 in
set_option maxRecDepth 100000 in
theorem c_X11_elected (l : Launch) (D : va_G) (t : Nat → ClassId) (a : Nat → Nat) : Met l yX11_elected (wd yX11_elected cX11_elected 1 (some .int)) (RM 2 0 0) (PreP D (TY t) [.ref (a 0)] [(a 0, .inr (11, [.ref (a 1), .ref (a 20), .ref (a 3), .ref (a 40), .ref (a 4), .int 0, .ref (a 5), .ref (a 14), .ref (a 15), .ref (a 16), .ref (a 17), .ref (a 18)])), (a 40, .inr (0, [.int 0, .int 0, .int 0, .int 0, .int 0, .int 0, .int 0, .int 0, .ref (a 41), .ref (a 42), .ref (a 43), .ref (a 44), .ref (a 45), .ref (a 46), .ref (a 47), .ref (a 48), .ref (a 49), .ref (a 50), .ref (a 54)]))]) (QI (-2)) 0 0 NoF := by
  refine Met.ofW (cc := cX11_elected) (maxL := 1) (ret := (some .int)) (by decide) rfl ?_
  intro p e s m args below meth c s₁ B hml hv
  obtain ⟨rfl, hP, hK, hN⟩ := hv
  have hx := B.exec
  have hb := B.bytes
  have hr := B.returns
  have hts : ∀ w ∈ TB, w.before _ s = true := fun w h => atoms_spec (ws := wd yX11_elected cX11_elected 1 (some .int)) B.pre w (List.mem_cons_of_mem _ h)
  have hown : s.vm.findClass RX11 = some m.cls := findClass_of_methodNamed B.named
  have hlocks := B.notSynchronized
  have hF : CallFix p m c cX11_elected 1 s _ TB RX11 := ⟨hx, hb, hml, hown, hts⟩
  have hl := lv_entry ([.ref (a 0)]) (n := 1) (Nat.le_of_ble_eq_true rfl)
  rw [lg_entry_eq]
  generalize (lg_sl ([.ref (a 0)]) ++ List.replicate (1 - (lg_sl ([.ref (a 0)])).length) Slot.unset).toArray = ls at hl ⊢
  have hl : lv_has ls 1 [(0, .ref (a 0))] := hl
  have hS : va_S NoF s.heap s.heap [] := va_S.rf
  have hP : va_P D classes [(a 0, .inr (11, [.ref (a 1), .ref (a 20), .ref (a 3), .ref (a 40), .ref (a 4), .int 0, .ref (a 5), .ref (a 14), .ref (a 15), .ref (a 16), .ref (a 17), .ref (a 18)])), (a 40, .inr (0, [.int 0, .int 0, .int 0, .int 0, .int 0, .int 0, .int 0, .int 0, .ref (a 41), .ref (a 42), .ref (a 43), .ref (a 44), .ref (a 45), .ref (a 46), .ref (a 47), .ref (a 48), .ref (a 49), .ref (a 50), .ref (a 54)]))] s.heap := hP
  refine lv_aload_n hx hb dX11_elected_0 rfl (lv_at hl 0 rfl) ?_
  refine va_get (D := D) (ci := 11) (v := .ref (a 40)) (C := RX11) (T := TX11) (N := 12) hx hb hts iX11 hown hK hP 0 rfl rfl 3 (by decide) (hts _ m_436) (fun _ h9 => h9) rfl dX11_elected_1 ?_
  refine x_pV hF (c_X0_isNone l D t a) m_892 m_893 m_894 m_3 m_895 hd_X0_isNone ⟨Nat.le_of_ble_eq_true rfl, Nat.le_of_ble_eq_true rfl⟩ hK hN hP hS [1] rfl 0 (ci := 0) rfl rfl rfl hl.1 rfl (Nat.le_of_ble_eq_true rfl) dX11_elected_4 ⟨Nat.zero_le _, Nat.zero_le _⟩ (fun H locs hP hS => ?_)
  refine lv_if_eq (tgt := 15) hx hb dX11_elected_7 (by decide) (fun c9 => absurd c9 (by decide)) (fun _ => ?_)
  refine lv_bipush (v := (-2)) hx hb dX11_elected_10 (by decide) ?_
  refine lv_goto (tgt := 22) hx hb dX11_elected_12 (by decide) ?_
  exact W.iret (v := (-2)) hx hb hr (fun t9 ht hW => ⟨⟨(-2), (), rfl, rfl, trivial⟩, hS.F ht⟩) hS.2.2 dX11_elected_22

set_option maxHeartbeats 4000000 in
set_option maxRecDepth 100000 in
theorem c_X11_sitting (l : Launch) (D : va_G) (t : Nat → ClassId) (a : Nat → Nat) : Met l yX11_sitting (wd yX11_sitting cX11_sitting 1 (some .int)) (RM 2 0 0) (PreP D (TY t) [.ref (a 0)] [(a 0, .inr (11, [.ref (a 1), .ref (a 20), .ref (a 3), .ref (a 40), .ref (a 4), .int 0, .ref (a 5), .ref (a 14), .ref (a 15), .ref (a 16), .ref (a 17), .ref (a 18)])), (a 40, .inr (0, [.int 0, .int 0, .int 0, .int 0, .int 0, .int 0, .int 0, .int 0, .ref (a 41), .ref (a 42), .ref (a 43), .ref (a 44), .ref (a 45), .ref (a 46), .ref (a 47), .ref (a 48), .ref (a 49), .ref (a 50), .ref (a 54)]))]) (QI (-2)) 0 0 NoF := by
  refine Met.ofW (cc := cX11_sitting) (maxL := 1) (ret := (some .int)) (by decide) rfl ?_
  intro p e s m args below meth c s₁ B hml hv
  obtain ⟨rfl, hP, hK, hN⟩ := hv
  have hx := B.exec
  have hb := B.bytes
  have hr := B.returns
  have hts : ∀ w ∈ TB, w.before _ s = true := fun w h => atoms_spec (ws := wd yX11_sitting cX11_sitting 1 (some .int)) B.pre w (List.mem_cons_of_mem _ h)
  have hown : s.vm.findClass RX11 = some m.cls := findClass_of_methodNamed B.named
  have hlocks := B.notSynchronized
  have hF : CallFix p m c cX11_sitting 1 s _ TB RX11 := ⟨hx, hb, hml, hown, hts⟩
  have hl := lv_entry ([.ref (a 0)]) (n := 1) (Nat.le_of_ble_eq_true rfl)
  rw [lg_entry_eq]
  generalize (lg_sl ([.ref (a 0)]) ++ List.replicate (1 - (lg_sl ([.ref (a 0)])).length) Slot.unset).toArray = ls at hl ⊢
  have hl : lv_has ls 1 [(0, .ref (a 0))] := hl
  have hS : va_S NoF s.heap s.heap [] := va_S.rf
  have hP : va_P D classes [(a 0, .inr (11, [.ref (a 1), .ref (a 20), .ref (a 3), .ref (a 40), .ref (a 4), .int 0, .ref (a 5), .ref (a 14), .ref (a 15), .ref (a 16), .ref (a 17), .ref (a 18)])), (a 40, .inr (0, [.int 0, .int 0, .int 0, .int 0, .int 0, .int 0, .int 0, .int 0, .ref (a 41), .ref (a 42), .ref (a 43), .ref (a 44), .ref (a 45), .ref (a 46), .ref (a 47), .ref (a 48), .ref (a 49), .ref (a 50), .ref (a 54)]))] s.heap := hP
  refine lv_aload_n hx hb dX11_sitting_0 rfl (lv_at hl 0 rfl) ?_
  refine va_get (D := D) (ci := 11) (v := .ref (a 40)) (C := RX11) (T := TX11) (N := 12) hx hb hts iX11 hown hK hP 0 rfl rfl 3 (by decide) (hts _ m_436) (fun _ h9 => h9) rfl dX11_sitting_1 ?_
  refine x_pV hF (c_X0_isNone l D t a) m_892 m_893 m_894 m_3 m_895 hd_X0_isNone ⟨Nat.le_of_ble_eq_true rfl, Nat.le_of_ble_eq_true rfl⟩ hK hN hP hS [1] rfl 0 (ci := 0) rfl rfl rfl hl.1 rfl (Nat.le_of_ble_eq_true rfl) dX11_sitting_4 ⟨Nat.zero_le _, Nat.zero_le _⟩ (fun H locs hP hS => ?_)
  refine lv_if_eq (tgt := 15) hx hb dX11_sitting_7 (by decide) (fun c9 => absurd c9 (by decide)) (fun _ => ?_)
  refine lv_bipush (v := (-2)) hx hb dX11_sitting_10 (by decide) ?_
  refine lv_goto (tgt := 25) hx hb dX11_sitting_12 (by decide) ?_
  exact W.iret (v := (-2)) hx hb hr (fun t9 ht hW => ⟨⟨(-2), (), rfl, rfl, trivial⟩, hS.F ht⟩) hS.2.2 dX11_sitting_25

set_option maxHeartbeats 4000000 in
set_option maxRecDepth 100000 in
theorem c_X11_term (l : Launch) (D : va_G) (t : Nat → ClassId) (a : Nat → Nat) : Met l yX11_term (wd yX11_term cX11_term 1 (some .int)) (RM 2 0 0) (PreP D (TY t) [.ref (a 0)] [(a 0, .inr (11, [.ref (a 1), .ref (a 20), .ref (a 3), .ref (a 40), .ref (a 4), .int 0, .ref (a 5), .ref (a 14), .ref (a 15), .ref (a 16), .ref (a 17), .ref (a 18)])), (a 40, .inr (0, [.int 0, .int 0, .int 0, .int 0, .int 0, .int 0, .int 0, .int 0, .ref (a 41), .ref (a 42), .ref (a 43), .ref (a 44), .ref (a 45), .ref (a 46), .ref (a 47), .ref (a 48), .ref (a 49), .ref (a 50), .ref (a 54)]))]) (QI (-2)) 0 0 NoF := by
  refine Met.ofW (cc := cX11_term) (maxL := 1) (ret := (some .int)) (by decide) rfl ?_
  intro p e s m args below meth c s₁ B hml hv
  obtain ⟨rfl, hP, hK, hN⟩ := hv
  have hx := B.exec
  have hb := B.bytes
  have hr := B.returns
  have hts : ∀ w ∈ TB, w.before _ s = true := fun w h => atoms_spec (ws := wd yX11_term cX11_term 1 (some .int)) B.pre w (List.mem_cons_of_mem _ h)
  have hown : s.vm.findClass RX11 = some m.cls := findClass_of_methodNamed B.named
  have hlocks := B.notSynchronized
  have hF : CallFix p m c cX11_term 1 s _ TB RX11 := ⟨hx, hb, hml, hown, hts⟩
  have hl := lv_entry ([.ref (a 0)]) (n := 1) (Nat.le_of_ble_eq_true rfl)
  rw [lg_entry_eq]
  generalize (lg_sl ([.ref (a 0)]) ++ List.replicate (1 - (lg_sl ([.ref (a 0)])).length) Slot.unset).toArray = ls at hl ⊢
  have hl : lv_has ls 1 [(0, .ref (a 0))] := hl
  have hS : va_S NoF s.heap s.heap [] := va_S.rf
  have hP : va_P D classes [(a 0, .inr (11, [.ref (a 1), .ref (a 20), .ref (a 3), .ref (a 40), .ref (a 4), .int 0, .ref (a 5), .ref (a 14), .ref (a 15), .ref (a 16), .ref (a 17), .ref (a 18)])), (a 40, .inr (0, [.int 0, .int 0, .int 0, .int 0, .int 0, .int 0, .int 0, .int 0, .ref (a 41), .ref (a 42), .ref (a 43), .ref (a 44), .ref (a 45), .ref (a 46), .ref (a 47), .ref (a 48), .ref (a 49), .ref (a 50), .ref (a 54)]))] s.heap := hP
  refine lv_aload_n hx hb dX11_term_0 rfl (lv_at hl 0 rfl) ?_
  refine va_get (D := D) (ci := 11) (v := .ref (a 40)) (C := RX11) (T := TX11) (N := 12) hx hb hts iX11 hown hK hP 0 rfl rfl 3 (by decide) (hts _ m_436) (fun _ h9 => h9) rfl dX11_term_1 ?_
  refine x_pV hF (c_X0_isNone l D t a) m_892 m_893 m_894 m_3 m_895 hd_X0_isNone ⟨Nat.le_of_ble_eq_true rfl, Nat.le_of_ble_eq_true rfl⟩ hK hN hP hS [1] rfl 0 (ci := 0) rfl rfl rfl hl.1 rfl (Nat.le_of_ble_eq_true rfl) dX11_term_4 ⟨Nat.zero_le _, Nat.zero_le _⟩ (fun H locs hP hS => ?_)
  refine lv_if_eq (tgt := 13) hx hb dX11_term_7 (by decide) (fun c9 => absurd c9 (by decide)) (fun _ => ?_)
  refine lv_bipush (v := (-2)) hx hb dX11_term_10 (by decide) ?_
  exact W.iret (v := (-2)) hx hb hr (fun t9 ht hW => ⟨⟨(-2), (), rfl, rfl, trivial⟩, hS.F ht⟩) hS.2.2 dX11_term_12

set_option maxHeartbeats 4000000 in
set_option maxRecDepth 100000 in
theorem c_X11_undo (l : Launch) (D : va_G) (t : Nat → ClassId) (a : Nat → Nat) : Met l yX11_undo (wd yX11_undo cX11_undo 1 (some .int)) (RM 2 0 0) (PreP D (TY t) [.ref (a 0)] [(a 0, .inr (11, [.ref (a 1), .ref (a 20), .ref (a 3), .ref (a 40), .ref (a 4), .int 0, .ref (a 5), .ref (a 14), .ref (a 15), .ref (a 16), .ref (a 17), .ref (a 18)])), (a 40, .inr (0, [.int 0, .int 0, .int 0, .int 0, .int 0, .int 0, .int 0, .int 0, .ref (a 41), .ref (a 42), .ref (a 43), .ref (a 44), .ref (a 45), .ref (a 46), .ref (a 47), .ref (a 48), .ref (a 49), .ref (a 50), .ref (a 54)]))]) (QI (-2)) 0 0 NoF := by
  refine Met.ofW (cc := cX11_undo) (maxL := 1) (ret := (some .int)) (by decide) rfl ?_
  intro p e s m args below meth c s₁ B hml hv
  obtain ⟨rfl, hP, hK, hN⟩ := hv
  have hx := B.exec
  have hb := B.bytes
  have hr := B.returns
  have hts : ∀ w ∈ TB, w.before _ s = true := fun w h => atoms_spec (ws := wd yX11_undo cX11_undo 1 (some .int)) B.pre w (List.mem_cons_of_mem _ h)
  have hown : s.vm.findClass RX11 = some m.cls := findClass_of_methodNamed B.named
  have hlocks := B.notSynchronized
  have hF : CallFix p m c cX11_undo 1 s _ TB RX11 := ⟨hx, hb, hml, hown, hts⟩
  have hl := lv_entry ([.ref (a 0)]) (n := 1) (Nat.le_of_ble_eq_true rfl)
  rw [lg_entry_eq]
  generalize (lg_sl ([.ref (a 0)]) ++ List.replicate (1 - (lg_sl ([.ref (a 0)])).length) Slot.unset).toArray = ls at hl ⊢
  have hl : lv_has ls 1 [(0, .ref (a 0))] := hl
  have hS : va_S NoF s.heap s.heap [] := va_S.rf
  have hP : va_P D classes [(a 0, .inr (11, [.ref (a 1), .ref (a 20), .ref (a 3), .ref (a 40), .ref (a 4), .int 0, .ref (a 5), .ref (a 14), .ref (a 15), .ref (a 16), .ref (a 17), .ref (a 18)])), (a 40, .inr (0, [.int 0, .int 0, .int 0, .int 0, .int 0, .int 0, .int 0, .int 0, .ref (a 41), .ref (a 42), .ref (a 43), .ref (a 44), .ref (a 45), .ref (a 46), .ref (a 47), .ref (a 48), .ref (a 49), .ref (a 50), .ref (a 54)]))] s.heap := hP
  refine lv_aload_n hx hb dX11_undo_0 rfl (lv_at hl 0 rfl) ?_
  refine va_get (D := D) (ci := 11) (v := .ref (a 40)) (C := RX11) (T := TX11) (N := 12) hx hb hts iX11 hown hK hP 0 rfl rfl 3 (by decide) (hts _ m_436) (fun _ h9 => h9) rfl dX11_undo_1 ?_
  refine x_pV hF (c_X0_isNone l D t a) m_892 m_893 m_894 m_3 m_895 hd_X0_isNone ⟨Nat.le_of_ble_eq_true rfl, Nat.le_of_ble_eq_true rfl⟩ hK hN hP hS [1] rfl 0 (ci := 0) rfl rfl rfl hl.1 rfl (Nat.le_of_ble_eq_true rfl) dX11_undo_4 ⟨Nat.zero_le _, Nat.zero_le _⟩ (fun H locs hP hS => ?_)
  refine lv_if_eq (tgt := 13) hx hb dX11_undo_7 (by decide) (fun c9 => absurd c9 (by decide)) (fun _ => ?_)
  refine lv_bipush (v := (-2)) hx hb dX11_undo_10 (by decide) ?_
  exact W.iret (v := (-2)) hx hb hr (fun t9 ht hW => ⟨⟨(-2), (), rfl, rfl, trivial⟩, hS.F ht⟩) hS.2.2 dX11_undo_12

set_option maxHeartbeats 4000000 in
set_option maxRecDepth 100000 in
theorem c_X11_led (l : Launch) (D : va_G) (t : Nat → ClassId) (a : Nat → Nat) (x : Int32) : Met l yX11_led (wd yX11_led cX11_led 2 (some .int)) (RM 2 0 0) (PreP D (TY t) [.ref (a 0), .int x] [(a 0, .inr (11, [.ref (a 1), .ref (a 20), .ref (a 3), .ref (a 40), .ref (a 4), .int 0, .ref (a 5), .ref (a 14), .ref (a 15), .ref (a 16), .ref (a 17), .ref (a 18)])), (a 40, .inr (0, [.int 0, .int 0, .int 0, .int 0, .int 0, .int 0, .int 0, .int 0, .ref (a 41), .ref (a 42), .ref (a 43), .ref (a 44), .ref (a 45), .ref (a 46), .ref (a 47), .ref (a 48), .ref (a 49), .ref (a 50), .ref (a 54)]))]) (QI (-2)) 0 0 NoF := by
  refine Met.ofW (cc := cX11_led) (maxL := 2) (ret := (some .int)) (by decide) rfl ?_
  intro p e s m args below meth c s₁ B hml hv
  obtain ⟨rfl, hP, hK, hN⟩ := hv
  have hx := B.exec
  have hb := B.bytes
  have hr := B.returns
  have hts : ∀ w ∈ TB, w.before _ s = true := fun w h => atoms_spec (ws := wd yX11_led cX11_led 2 (some .int)) B.pre w (List.mem_cons_of_mem _ h)
  have hown : s.vm.findClass RX11 = some m.cls := findClass_of_methodNamed B.named
  have hlocks := B.notSynchronized
  have hF : CallFix p m c cX11_led 2 s _ TB RX11 := ⟨hx, hb, hml, hown, hts⟩
  have hl := lv_entry ([.ref (a 0), .int x]) (n := 2) (Nat.le_of_ble_eq_true rfl)
  rw [lg_entry_eq]
  generalize (lg_sl ([.ref (a 0), .int x]) ++ List.replicate (2 - (lg_sl ([.ref (a 0), .int x])).length) Slot.unset).toArray = ls at hl ⊢
  have hl : lv_has ls 2 [(0, .ref (a 0)), (1, .int x)] := hl
  have hS : va_S NoF s.heap s.heap [] := va_S.rf
  have hP : va_P D classes [(a 0, .inr (11, [.ref (a 1), .ref (a 20), .ref (a 3), .ref (a 40), .ref (a 4), .int 0, .ref (a 5), .ref (a 14), .ref (a 15), .ref (a 16), .ref (a 17), .ref (a 18)])), (a 40, .inr (0, [.int 0, .int 0, .int 0, .int 0, .int 0, .int 0, .int 0, .int 0, .ref (a 41), .ref (a 42), .ref (a 43), .ref (a 44), .ref (a 45), .ref (a 46), .ref (a 47), .ref (a 48), .ref (a 49), .ref (a 50), .ref (a 54)]))] s.heap := hP
  refine lv_aload_n hx hb dX11_led_0 rfl (lv_at hl 0 rfl) ?_
  refine va_get (D := D) (ci := 11) (v := .ref (a 40)) (C := RX11) (T := TX11) (N := 12) hx hb hts iX11 hown hK hP 0 rfl rfl 3 (by decide) (hts _ m_436) (fun _ h9 => h9) rfl dX11_led_1 ?_
  refine x_pV hF (c_X0_isNone l D t a) m_892 m_893 m_894 m_3 m_895 hd_X0_isNone ⟨Nat.le_of_ble_eq_true rfl, Nat.le_of_ble_eq_true rfl⟩ hK hN hP hS [1] rfl 0 (ci := 0) rfl rfl rfl hl.1 rfl (Nat.le_of_ble_eq_true rfl) dX11_led_4 ⟨Nat.zero_le _, Nat.zero_le _⟩ (fun H locs hP hS => ?_)
  refine lv_if_eq (tgt := 13) hx hb dX11_led_7 (by decide) (fun c9 => absurd c9 (by decide)) (fun _ => ?_)
  refine lv_bipush (v := (-2)) hx hb dX11_led_10 (by decide) ?_
  exact W.iret (v := (-2)) hx hb hr (fun t9 ht hW => ⟨⟨(-2), (), rfl, rfl, trivial⟩, hS.F ht⟩) hS.2.2 dX11_led_12

set_option maxHeartbeats 4000000 in
set_option maxRecDepth 100000 in
theorem c_X11_dies (l : Launch) (D : va_G) (t : Nat → ClassId) (a : Nat → Nat) : Met l yX11_dies (wd yX11_dies cX11_dies 1 (some .int)) (RM 2 0 0) (PreP D (TY t) [.ref (a 0)] [(a 0, .inr (11, [.ref (a 1), .ref (a 20), .ref (a 3), .ref (a 40), .ref (a 4), .int 0, .ref (a 5), .ref (a 14), .ref (a 15), .ref (a 16), .ref (a 17), .ref (a 18)])), (a 40, .inr (0, [.int 0, .int 0, .int 0, .int 0, .int 0, .int 0, .int 0, .int 0, .ref (a 41), .ref (a 42), .ref (a 43), .ref (a 44), .ref (a 45), .ref (a 46), .ref (a 47), .ref (a 48), .ref (a 49), .ref (a 50), .ref (a 54)]))]) (QI (-2)) 0 0 NoF := by
  refine Met.ofW (cc := cX11_dies) (maxL := 1) (ret := (some .int)) (by decide) rfl ?_
  intro p e s m args below meth c s₁ B hml hv
  obtain ⟨rfl, hP, hK, hN⟩ := hv
  have hx := B.exec
  have hb := B.bytes
  have hr := B.returns
  have hts : ∀ w ∈ TB, w.before _ s = true := fun w h => atoms_spec (ws := wd yX11_dies cX11_dies 1 (some .int)) B.pre w (List.mem_cons_of_mem _ h)
  have hown : s.vm.findClass RX11 = some m.cls := findClass_of_methodNamed B.named
  have hlocks := B.notSynchronized
  have hF : CallFix p m c cX11_dies 1 s _ TB RX11 := ⟨hx, hb, hml, hown, hts⟩
  have hl := lv_entry ([.ref (a 0)]) (n := 1) (Nat.le_of_ble_eq_true rfl)
  rw [lg_entry_eq]
  generalize (lg_sl ([.ref (a 0)]) ++ List.replicate (1 - (lg_sl ([.ref (a 0)])).length) Slot.unset).toArray = ls at hl ⊢
  have hl : lv_has ls 1 [(0, .ref (a 0))] := hl
  have hS : va_S NoF s.heap s.heap [] := va_S.rf
  have hP : va_P D classes [(a 0, .inr (11, [.ref (a 1), .ref (a 20), .ref (a 3), .ref (a 40), .ref (a 4), .int 0, .ref (a 5), .ref (a 14), .ref (a 15), .ref (a 16), .ref (a 17), .ref (a 18)])), (a 40, .inr (0, [.int 0, .int 0, .int 0, .int 0, .int 0, .int 0, .int 0, .int 0, .ref (a 41), .ref (a 42), .ref (a 43), .ref (a 44), .ref (a 45), .ref (a 46), .ref (a 47), .ref (a 48), .ref (a 49), .ref (a 50), .ref (a 54)]))] s.heap := hP
  refine lv_aload_n hx hb dX11_dies_0 rfl (lv_at hl 0 rfl) ?_
  refine va_get (D := D) (ci := 11) (v := .ref (a 40)) (C := RX11) (T := TX11) (N := 12) hx hb hts iX11 hown hK hP 0 rfl rfl 3 (by decide) (hts _ m_436) (fun _ h9 => h9) rfl dX11_dies_1 ?_
  refine x_pV hF (c_X0_isNone l D t a) m_892 m_893 m_894 m_3 m_895 hd_X0_isNone ⟨Nat.le_of_ble_eq_true rfl, Nat.le_of_ble_eq_true rfl⟩ hK hN hP hS [1] rfl 0 (ci := 0) rfl rfl rfl hl.1 rfl (Nat.le_of_ble_eq_true rfl) dX11_dies_4 ⟨Nat.zero_le _, Nat.zero_le _⟩ (fun H locs hP hS => ?_)
  refine lv_if_eq (tgt := 13) hx hb dX11_dies_7 (by decide) (fun c9 => absurd c9 (by decide)) (fun _ => ?_)
  refine lv_bipush (v := (-2)) hx hb dX11_dies_10 (by decide) ?_
  exact W.iret (v := (-2)) hx hb hr (fun t9 ht hW => ⟨⟨(-2), (), rfl, rfl, trivial⟩, hS.F ht⟩) hS.2.2 dX11_dies_12

set_option maxHeartbeats 4000000 in
set_option maxRecDepth 100000 in
theorem c_X11_said (l : Launch) (D : va_G) (t : Nat → ClassId) (a : Nat → Nat) (x : Int32) : Met l yX11_said (wd yX11_said cX11_said 2 (some .int)) (RM 2 0 0) (PreP D (TY t) [.ref (a 0), .int x] [(a 0, .inr (11, [.ref (a 1), .ref (a 20), .ref (a 3), .ref (a 40), .ref (a 4), .int 0, .ref (a 5), .ref (a 14), .ref (a 15), .ref (a 16), .ref (a 17), .ref (a 18)])), (a 40, .inr (0, [.int 0, .int 0, .int 0, .int 0, .int 0, .int 0, .int 0, .int 0, .ref (a 41), .ref (a 42), .ref (a 43), .ref (a 44), .ref (a 45), .ref (a 46), .ref (a 47), .ref (a 48), .ref (a 49), .ref (a 50), .ref (a 54)]))]) (QI (-2)) 0 0 NoF := by
  refine Met.ofW (cc := cX11_said) (maxL := 2) (ret := (some .int)) (by decide) rfl ?_
  intro p e s m args below meth c s₁ B hml hv
  obtain ⟨rfl, hP, hK, hN⟩ := hv
  have hx := B.exec
  have hb := B.bytes
  have hr := B.returns
  have hts : ∀ w ∈ TB, w.before _ s = true := fun w h => atoms_spec (ws := wd yX11_said cX11_said 2 (some .int)) B.pre w (List.mem_cons_of_mem _ h)
  have hown : s.vm.findClass RX11 = some m.cls := findClass_of_methodNamed B.named
  have hlocks := B.notSynchronized
  have hF : CallFix p m c cX11_said 2 s _ TB RX11 := ⟨hx, hb, hml, hown, hts⟩
  have hl := lv_entry ([.ref (a 0), .int x]) (n := 2) (Nat.le_of_ble_eq_true rfl)
  rw [lg_entry_eq]
  generalize (lg_sl ([.ref (a 0), .int x]) ++ List.replicate (2 - (lg_sl ([.ref (a 0), .int x])).length) Slot.unset).toArray = ls at hl ⊢
  have hl : lv_has ls 2 [(0, .ref (a 0)), (1, .int x)] := hl
  have hS : va_S NoF s.heap s.heap [] := va_S.rf
  have hP : va_P D classes [(a 0, .inr (11, [.ref (a 1), .ref (a 20), .ref (a 3), .ref (a 40), .ref (a 4), .int 0, .ref (a 5), .ref (a 14), .ref (a 15), .ref (a 16), .ref (a 17), .ref (a 18)])), (a 40, .inr (0, [.int 0, .int 0, .int 0, .int 0, .int 0, .int 0, .int 0, .int 0, .ref (a 41), .ref (a 42), .ref (a 43), .ref (a 44), .ref (a 45), .ref (a 46), .ref (a 47), .ref (a 48), .ref (a 49), .ref (a 50), .ref (a 54)]))] s.heap := hP
  refine lv_aload_n hx hb dX11_said_0 rfl (lv_at hl 0 rfl) ?_
  refine va_get (D := D) (ci := 11) (v := .ref (a 40)) (C := RX11) (T := TX11) (N := 12) hx hb hts iX11 hown hK hP 0 rfl rfl 3 (by decide) (hts _ m_436) (fun _ h9 => h9) rfl dX11_said_1 ?_
  refine lv_iload_n hx hb dX11_said_4 rfl (lv_at hl 1 rfl) ?_
  refine x_pV hF (c_X0_hasMeaning l D t a x) m_968 m_969 m_970 m_3 m_971 hd_X0_hasMeaning ⟨Nat.le_of_ble_eq_true rfl, Nat.le_of_ble_eq_true rfl⟩ hK hN hP hS [1] rfl 0 (ci := 0) rfl rfl rfl hl.1 rfl (Nat.le_of_ble_eq_true rfl) dX11_said_5 ⟨Nat.zero_le _, Nat.zero_le _⟩ (fun H locs hP hS => ?_)
  refine lv_if_ne (tgt := 14) hx hb dX11_said_8 (by decide) (fun c9 => absurd c9 (by decide)) (fun _ => ?_)
  refine lv_bipush (v := (-2)) hx hb dX11_said_11 (by decide) ?_
  exact W.iret (v := (-2)) hx hb hr (fun t9 ht hW => ⟨⟨(-2), (), rfl, rfl, trivial⟩, hS.F ht⟩) hS.2.2 dX11_said_13

set_option maxHeartbeats 4000000 in
set_option maxRecDepth 100000 in
theorem c_X11_least (l : Launch) (D : va_G) (t : Nat → ClassId) (a : Nat → Nat) (x : Int32) : Met l yX11_least (wd yX11_least cX11_least 2 (some .int)) (RM 2 0 0) (PreP D (TY t) [.ref (a 0), .int x] [(a 0, .inr (11, [.ref (a 1), .ref (a 20), .ref (a 3), .ref (a 40), .ref (a 4), .int 0, .ref (a 5), .ref (a 14), .ref (a 15), .ref (a 16), .ref (a 17), .ref (a 18)])), (a 40, .inr (0, [.int 0, .int 0, .int 0, .int 0, .int 0, .int 0, .int 0, .int 0, .ref (a 41), .ref (a 42), .ref (a 43), .ref (a 44), .ref (a 45), .ref (a 46), .ref (a 47), .ref (a 48), .ref (a 49), .ref (a 50), .ref (a 54)]))]) (QI (-2)) 0 0 NoF := by
  refine Met.ofW (cc := cX11_least) (maxL := 2) (ret := (some .int)) (by decide) rfl ?_
  intro p e s m args below meth c s₁ B hml hv
  obtain ⟨rfl, hP, hK, hN⟩ := hv
  have hx := B.exec
  have hb := B.bytes
  have hr := B.returns
  have hts : ∀ w ∈ TB, w.before _ s = true := fun w h => atoms_spec (ws := wd yX11_least cX11_least 2 (some .int)) B.pre w (List.mem_cons_of_mem _ h)
  have hown : s.vm.findClass RX11 = some m.cls := findClass_of_methodNamed B.named
  have hlocks := B.notSynchronized
  have hF : CallFix p m c cX11_least 2 s _ TB RX11 := ⟨hx, hb, hml, hown, hts⟩
  have hl := lv_entry ([.ref (a 0), .int x]) (n := 2) (Nat.le_of_ble_eq_true rfl)
  rw [lg_entry_eq]
  generalize (lg_sl ([.ref (a 0), .int x]) ++ List.replicate (2 - (lg_sl ([.ref (a 0), .int x])).length) Slot.unset).toArray = ls at hl ⊢
  have hl : lv_has ls 2 [(0, .ref (a 0)), (1, .int x)] := hl
  have hS : va_S NoF s.heap s.heap [] := va_S.rf
  have hP : va_P D classes [(a 0, .inr (11, [.ref (a 1), .ref (a 20), .ref (a 3), .ref (a 40), .ref (a 4), .int 0, .ref (a 5), .ref (a 14), .ref (a 15), .ref (a 16), .ref (a 17), .ref (a 18)])), (a 40, .inr (0, [.int 0, .int 0, .int 0, .int 0, .int 0, .int 0, .int 0, .int 0, .ref (a 41), .ref (a 42), .ref (a 43), .ref (a 44), .ref (a 45), .ref (a 46), .ref (a 47), .ref (a 48), .ref (a 49), .ref (a 50), .ref (a 54)]))] s.heap := hP
  refine lv_aload_n hx hb dX11_least_0 rfl (lv_at hl 0 rfl) ?_
  refine va_get (D := D) (ci := 11) (v := .ref (a 40)) (C := RX11) (T := TX11) (N := 12) hx hb hts iX11 hown hK hP 0 rfl rfl 3 (by decide) (hts _ m_436) (fun _ h9 => h9) rfl dX11_least_1 ?_
  refine lv_iload_n hx hb dX11_least_4 rfl (lv_at hl 1 rfl) ?_
  refine x_pV hF (c_X0_hasMeaning l D t a x) m_968 m_969 m_970 m_3 m_971 hd_X0_hasMeaning ⟨Nat.le_of_ble_eq_true rfl, Nat.le_of_ble_eq_true rfl⟩ hK hN hP hS [1] rfl 0 (ci := 0) rfl rfl rfl hl.1 rfl (Nat.le_of_ble_eq_true rfl) dX11_least_5 ⟨Nat.zero_le _, Nat.zero_le _⟩ (fun H locs hP hS => ?_)
  refine lv_if_ne (tgt := 14) hx hb dX11_least_8 (by decide) (fun c9 => absurd c9 (by decide)) (fun _ => ?_)
  refine lv_bipush (v := (-2)) hx hb dX11_least_11 (by decide) ?_
  exact W.iret (v := (-2)) hx hb hr (fun t9 ht hW => ⟨⟨(-2), (), rfl, rfl, trivial⟩, hS.F ht⟩) hS.2.2 dX11_least_13

set_option maxHeartbeats 4000000 in
set_option maxRecDepth 100000 in
theorem c_X11_round (l : Launch) (D : va_G) (t : Nat → ClassId) (a : Nat → Nat) (x : Int32) : Met l yX11_round (wd yX11_round cX11_round 2 (some .int)) (RM 2 0 0) (PreP D (TY t) [.ref (a 0), .int x] [(a 0, .inr (11, [.ref (a 1), .ref (a 20), .ref (a 3), .ref (a 40), .ref (a 4), .int 0, .ref (a 5), .ref (a 14), .ref (a 15), .ref (a 16), .ref (a 17), .ref (a 18)])), (a 40, .inr (0, [.int 0, .int 0, .int 0, .int 0, .int 0, .int 0, .int 0, .int 0, .ref (a 41), .ref (a 42), .ref (a 43), .ref (a 44), .ref (a 45), .ref (a 46), .ref (a 47), .ref (a 48), .ref (a 49), .ref (a 50), .ref (a 54)]))]) (QI (-2)) 0 0 NoF := by
  refine Met.ofW (cc := cX11_round) (maxL := 2) (ret := (some .int)) (by decide) rfl ?_
  intro p e s m args below meth c s₁ B hml hv
  obtain ⟨rfl, hP, hK, hN⟩ := hv
  have hx := B.exec
  have hb := B.bytes
  have hr := B.returns
  have hts : ∀ w ∈ TB, w.before _ s = true := fun w h => atoms_spec (ws := wd yX11_round cX11_round 2 (some .int)) B.pre w (List.mem_cons_of_mem _ h)
  have hown : s.vm.findClass RX11 = some m.cls := findClass_of_methodNamed B.named
  have hlocks := B.notSynchronized
  have hF : CallFix p m c cX11_round 2 s _ TB RX11 := ⟨hx, hb, hml, hown, hts⟩
  have hl := lv_entry ([.ref (a 0), .int x]) (n := 2) (Nat.le_of_ble_eq_true rfl)
  rw [lg_entry_eq]
  generalize (lg_sl ([.ref (a 0), .int x]) ++ List.replicate (2 - (lg_sl ([.ref (a 0), .int x])).length) Slot.unset).toArray = ls at hl ⊢
  have hl : lv_has ls 2 [(0, .ref (a 0)), (1, .int x)] := hl
  have hS : va_S NoF s.heap s.heap [] := va_S.rf
  have hP : va_P D classes [(a 0, .inr (11, [.ref (a 1), .ref (a 20), .ref (a 3), .ref (a 40), .ref (a 4), .int 0, .ref (a 5), .ref (a 14), .ref (a 15), .ref (a 16), .ref (a 17), .ref (a 18)])), (a 40, .inr (0, [.int 0, .int 0, .int 0, .int 0, .int 0, .int 0, .int 0, .int 0, .ref (a 41), .ref (a 42), .ref (a 43), .ref (a 44), .ref (a 45), .ref (a 46), .ref (a 47), .ref (a 48), .ref (a 49), .ref (a 50), .ref (a 54)]))] s.heap := hP
  refine lv_aload_n hx hb dX11_round_0 rfl (lv_at hl 0 rfl) ?_
  refine va_get (D := D) (ci := 11) (v := .ref (a 40)) (C := RX11) (T := TX11) (N := 12) hx hb hts iX11 hown hK hP 0 rfl rfl 3 (by decide) (hts _ m_436) (fun _ h9 => h9) rfl dX11_round_1 ?_
  refine lv_iload_n hx hb dX11_round_4 rfl (lv_at hl 1 rfl) ?_
  refine x_pV hF (c_X0_hasMeaning l D t a x) m_968 m_969 m_970 m_3 m_971 hd_X0_hasMeaning ⟨Nat.le_of_ble_eq_true rfl, Nat.le_of_ble_eq_true rfl⟩ hK hN hP hS [1] rfl 0 (ci := 0) rfl rfl rfl hl.1 rfl (Nat.le_of_ble_eq_true rfl) dX11_round_5 ⟨Nat.zero_le _, Nat.zero_le _⟩ (fun H locs hP hS => ?_)
  refine lv_if_ne (tgt := 14) hx hb dX11_round_8 (by decide) (fun c9 => absurd c9 (by decide)) (fun _ => ?_)
  refine lv_bipush (v := (-2)) hx hb dX11_round_11 (by decide) ?_
  exact W.iret (v := (-2)) hx hb hr (fun t9 ht hW => ⟨⟨(-2), (), rfl, rfl, trivial⟩, hS.F ht⟩) hS.2.2 dX11_round_13

set_option maxHeartbeats 4000000 in
set_option maxRecDepth 100000 in
theorem c_X11_dumb (l : Launch) (D : va_G) (t : Nat → ClassId) (a : Nat → Nat) : Met l yX11_dumb (wd yX11_dumb cX11_dumb 1 (some .int)) (RM 2 0 0) (PreP D (TY t) [.ref (a 0)] [(a 0, .inr (11, [.ref (a 1), .ref (a 20), .ref (a 3), .ref (a 40), .ref (a 4), .int 0, .ref (a 5), .ref (a 14), .ref (a 15), .ref (a 16), .ref (a 17), .ref (a 18)])), (a 40, .inr (0, [.int 0, .int 0, .int 0, .int 0, .int 0, .int 0, .int 0, .int 0, .ref (a 41), .ref (a 42), .ref (a 43), .ref (a 44), .ref (a 45), .ref (a 46), .ref (a 47), .ref (a 48), .ref (a 49), .ref (a 50), .ref (a 54)]))]) (QI (-2)) 0 0 NoF := by
  refine Met.ofW (cc := cX11_dumb) (maxL := 1) (ret := (some .int)) (by decide) rfl ?_
  intro p e s m args below meth c s₁ B hml hv
  obtain ⟨rfl, hP, hK, hN⟩ := hv
  have hx := B.exec
  have hb := B.bytes
  have hr := B.returns
  have hts : ∀ w ∈ TB, w.before _ s = true := fun w h => atoms_spec (ws := wd yX11_dumb cX11_dumb 1 (some .int)) B.pre w (List.mem_cons_of_mem _ h)
  have hown : s.vm.findClass RX11 = some m.cls := findClass_of_methodNamed B.named
  have hlocks := B.notSynchronized
  have hF : CallFix p m c cX11_dumb 1 s _ TB RX11 := ⟨hx, hb, hml, hown, hts⟩
  have hl := lv_entry ([.ref (a 0)]) (n := 1) (Nat.le_of_ble_eq_true rfl)
  rw [lg_entry_eq]
  generalize (lg_sl ([.ref (a 0)]) ++ List.replicate (1 - (lg_sl ([.ref (a 0)])).length) Slot.unset).toArray = ls at hl ⊢
  have hl : lv_has ls 1 [(0, .ref (a 0))] := hl
  have hS : va_S NoF s.heap s.heap [] := va_S.rf
  have hP : va_P D classes [(a 0, .inr (11, [.ref (a 1), .ref (a 20), .ref (a 3), .ref (a 40), .ref (a 4), .int 0, .ref (a 5), .ref (a 14), .ref (a 15), .ref (a 16), .ref (a 17), .ref (a 18)])), (a 40, .inr (0, [.int 0, .int 0, .int 0, .int 0, .int 0, .int 0, .int 0, .int 0, .ref (a 41), .ref (a 42), .ref (a 43), .ref (a 44), .ref (a 45), .ref (a 46), .ref (a 47), .ref (a 48), .ref (a 49), .ref (a 50), .ref (a 54)]))] s.heap := hP
  refine lv_aload_n hx hb dX11_dumb_0 rfl (lv_at hl 0 rfl) ?_
  refine va_get (D := D) (ci := 11) (v := .ref (a 40)) (C := RX11) (T := TX11) (N := 12) hx hb hts iX11 hown hK hP 0 rfl rfl 3 (by decide) (hts _ m_436) (fun _ h9 => h9) rfl dX11_dumb_1 ?_
  refine x_pV hF (c_X0_isNone l D t a) m_892 m_893 m_894 m_3 m_895 hd_X0_isNone ⟨Nat.le_of_ble_eq_true rfl, Nat.le_of_ble_eq_true rfl⟩ hK hN hP hS [1] rfl 0 (ci := 0) rfl rfl rfl hl.1 rfl (Nat.le_of_ble_eq_true rfl) dX11_dumb_4 ⟨Nat.zero_le _, Nat.zero_le _⟩ (fun H locs hP hS => ?_)
  refine lv_if_eq (tgt := 13) hx hb dX11_dumb_7 (by decide) (fun c9 => absurd c9 (by decide)) (fun _ => ?_)
  refine lv_bipush (v := (-2)) hx hb dX11_dumb_10 (by decide) ?_
  exact W.iret (v := (-2)) hx hb hr (fun t9 ht hW => ⟨⟨(-2), (), rfl, rfl, trivial⟩, hS.F ht⟩) hS.2.2 dX11_dumb_12

set_option maxHeartbeats 4000000 in
set_option maxRecDepth 100000 in
theorem c_X11_cost (l : Launch) (D : va_G) (t : Nat → ClassId) (a : Nat → Nat) (x : Int32) : Met l yX11_cost (wd yX11_cost cX11_cost 2 (some .int)) (RM 2 0 0) (PreP D (TY t) [.ref (a 0), .int x] [(a 0, .inr (11, [.ref (a 1), .ref (a 20), .ref (a 3), .ref (a 40), .ref (a 4), .int 0, .ref (a 5), .ref (a 14), .ref (a 15), .ref (a 16), .ref (a 17), .ref (a 18)])), (a 40, .inr (0, [.int 0, .int 0, .int 0, .int 0, .int 0, .int 0, .int 0, .int 0, .ref (a 41), .ref (a 42), .ref (a 43), .ref (a 44), .ref (a 45), .ref (a 46), .ref (a 47), .ref (a 48), .ref (a 49), .ref (a 50), .ref (a 54)]))]) (QI (-2)) 0 0 NoF := by
  refine Met.ofW (cc := cX11_cost) (maxL := 2) (ret := (some .int)) (by decide) rfl ?_
  intro p e s m args below meth c s₁ B hml hv
  obtain ⟨rfl, hP, hK, hN⟩ := hv
  have hx := B.exec
  have hb := B.bytes
  have hr := B.returns
  have hts : ∀ w ∈ TB, w.before _ s = true := fun w h => atoms_spec (ws := wd yX11_cost cX11_cost 2 (some .int)) B.pre w (List.mem_cons_of_mem _ h)
  have hown : s.vm.findClass RX11 = some m.cls := findClass_of_methodNamed B.named
  have hlocks := B.notSynchronized
  have hF : CallFix p m c cX11_cost 2 s _ TB RX11 := ⟨hx, hb, hml, hown, hts⟩
  have hl := lv_entry ([.ref (a 0), .int x]) (n := 2) (Nat.le_of_ble_eq_true rfl)
  rw [lg_entry_eq]
  generalize (lg_sl ([.ref (a 0), .int x]) ++ List.replicate (2 - (lg_sl ([.ref (a 0), .int x])).length) Slot.unset).toArray = ls at hl ⊢
  have hl : lv_has ls 2 [(0, .ref (a 0)), (1, .int x)] := hl
  have hS : va_S NoF s.heap s.heap [] := va_S.rf
  have hP : va_P D classes [(a 0, .inr (11, [.ref (a 1), .ref (a 20), .ref (a 3), .ref (a 40), .ref (a 4), .int 0, .ref (a 5), .ref (a 14), .ref (a 15), .ref (a 16), .ref (a 17), .ref (a 18)])), (a 40, .inr (0, [.int 0, .int 0, .int 0, .int 0, .int 0, .int 0, .int 0, .int 0, .ref (a 41), .ref (a 42), .ref (a 43), .ref (a 44), .ref (a 45), .ref (a 46), .ref (a 47), .ref (a 48), .ref (a 49), .ref (a 50), .ref (a 54)]))] s.heap := hP
  refine lv_aload_n hx hb dX11_cost_0 rfl (lv_at hl 0 rfl) ?_
  refine va_get (D := D) (ci := 11) (v := .ref (a 40)) (C := RX11) (T := TX11) (N := 12) hx hb hts iX11 hown hK hP 0 rfl rfl 3 (by decide) (hts _ m_436) (fun _ h9 => h9) rfl dX11_cost_1 ?_
  refine lv_iload_n hx hb dX11_cost_4 rfl (lv_at hl 1 rfl) ?_
  refine x_pV hF (c_X0_hasSpeaker l D t a x) m_713 m_714 m_715 m_3 m_716 hd_X0_hasSpeaker ⟨Nat.le_of_ble_eq_true rfl, Nat.le_of_ble_eq_true rfl⟩ hK hN hP hS [1] rfl 0 (ci := 0) rfl rfl rfl hl.1 rfl (Nat.le_of_ble_eq_true rfl) dX11_cost_5 ⟨Nat.zero_le _, Nat.zero_le _⟩ (fun H locs hP hS => ?_)
  refine lv_if_ne (tgt := 14) hx hb dX11_cost_8 (by decide) (fun c9 => absurd c9 (by decide)) (fun _ => ?_)
  refine lv_bipush (v := (-2)) hx hb dX11_cost_11 (by decide) ?_
  exact W.iret (v := (-2)) hx hb hr (fun t9 ht hW => ⟨⟨(-2), (), rfl, rfl, trivial⟩, hS.F ht⟩) hS.2.2 dX11_cost_13

set_option maxHeartbeats 4000000 in
set_option maxRecDepth 100000 in
theorem c_X11_costs (l : Launch) (D : va_G) (t : Nat → ClassId) (a : Nat → Nat) : Met l yX11_costs (wd yX11_costs cX11_costs 1 (some .int)) (RM 2 0 0) (PreP D (TY t) [.ref (a 0)] [(a 0, .inr (11, [.ref (a 1), .ref (a 20), .ref (a 3), .ref (a 40), .ref (a 4), .int 0, .ref (a 5), .ref (a 14), .ref (a 15), .ref (a 16), .ref (a 17), .ref (a 18)])), (a 40, .inr (0, [.int 0, .int 0, .int 0, .int 0, .int 0, .int 0, .int 0, .int 0, .ref (a 41), .ref (a 42), .ref (a 43), .ref (a 44), .ref (a 45), .ref (a 46), .ref (a 47), .ref (a 48), .ref (a 49), .ref (a 50), .ref (a 54)]))]) (QI (-2)) 0 0 NoF := by
  refine Met.ofW (cc := cX11_costs) (maxL := 1) (ret := (some .int)) (by decide) rfl ?_
  intro p e s m args below meth c s₁ B hml hv
  obtain ⟨rfl, hP, hK, hN⟩ := hv
  have hx := B.exec
  have hb := B.bytes
  have hr := B.returns
  have hts : ∀ w ∈ TB, w.before _ s = true := fun w h => atoms_spec (ws := wd yX11_costs cX11_costs 1 (some .int)) B.pre w (List.mem_cons_of_mem _ h)
  have hown : s.vm.findClass RX11 = some m.cls := findClass_of_methodNamed B.named
  have hlocks := B.notSynchronized
  have hF : CallFix p m c cX11_costs 1 s _ TB RX11 := ⟨hx, hb, hml, hown, hts⟩
  have hl := lv_entry ([.ref (a 0)]) (n := 1) (Nat.le_of_ble_eq_true rfl)
  rw [lg_entry_eq]
  generalize (lg_sl ([.ref (a 0)]) ++ List.replicate (1 - (lg_sl ([.ref (a 0)])).length) Slot.unset).toArray = ls at hl ⊢
  have hl : lv_has ls 1 [(0, .ref (a 0))] := hl
  have hS : va_S NoF s.heap s.heap [] := va_S.rf
  have hP : va_P D classes [(a 0, .inr (11, [.ref (a 1), .ref (a 20), .ref (a 3), .ref (a 40), .ref (a 4), .int 0, .ref (a 5), .ref (a 14), .ref (a 15), .ref (a 16), .ref (a 17), .ref (a 18)])), (a 40, .inr (0, [.int 0, .int 0, .int 0, .int 0, .int 0, .int 0, .int 0, .int 0, .ref (a 41), .ref (a 42), .ref (a 43), .ref (a 44), .ref (a 45), .ref (a 46), .ref (a 47), .ref (a 48), .ref (a 49), .ref (a 50), .ref (a 54)]))] s.heap := hP
  refine lv_aload_n hx hb dX11_costs_0 rfl (lv_at hl 0 rfl) ?_
  refine va_get (D := D) (ci := 11) (v := .ref (a 40)) (C := RX11) (T := TX11) (N := 12) hx hb hts iX11 hown hK hP 0 rfl rfl 3 (by decide) (hts _ m_436) (fun _ h9 => h9) rfl dX11_costs_1 ?_
  refine x_pV hF (c_X0_isNone l D t a) m_892 m_893 m_894 m_3 m_895 hd_X0_isNone ⟨Nat.le_of_ble_eq_true rfl, Nat.le_of_ble_eq_true rfl⟩ hK hN hP hS [1] rfl 0 (ci := 0) rfl rfl rfl hl.1 rfl (Nat.le_of_ble_eq_true rfl) dX11_costs_4 ⟨Nat.zero_le _, Nat.zero_le _⟩ (fun H locs hP hS => ?_)
  refine lv_if_eq (tgt := 15) hx hb dX11_costs_7 (by decide) (fun c9 => absurd c9 (by decide)) (fun _ => ?_)
  refine lv_bipush (v := (-2)) hx hb dX11_costs_10 (by decide) ?_
  refine lv_goto (tgt := 32) hx hb dX11_costs_12 (by decide) ?_
  exact W.iret (v := (-2)) hx hb hr (fun t9 ht hW => ⟨⟨(-2), (), rfl, rfl, trivial⟩, hS.F ht⟩) hS.2.2 dX11_costs_32

set_option maxHeartbeats 4000000 in
set_option maxRecDepth 100000 in
theorem c_X11_by (l : Launch) (D : va_G) (t : Nat → ClassId) (a : Nat → Nat) (x : Int32) : Met l yX11_by (wd yX11_by cX11_by 2 (some .int)) (RM 2 0 0) (PreP D (TY t) [.ref (a 0), .int x] [(a 0, .inr (11, [.ref (a 1), .ref (a 20), .ref (a 3), .ref (a 40), .ref (a 4), .int 0, .ref (a 5), .ref (a 14), .ref (a 15), .ref (a 16), .ref (a 17), .ref (a 18)])), (a 40, .inr (0, [.int 0, .int 0, .int 0, .int 0, .int 0, .int 0, .int 0, .int 0, .ref (a 41), .ref (a 42), .ref (a 43), .ref (a 44), .ref (a 45), .ref (a 46), .ref (a 47), .ref (a 48), .ref (a 49), .ref (a 50), .ref (a 54)]))]) (QI (-2)) 0 0 NoF := by
  refine Met.ofW (cc := cX11_by) (maxL := 2) (ret := (some .int)) (by decide) rfl ?_
  intro p e s m args below meth c s₁ B hml hv
  obtain ⟨rfl, hP, hK, hN⟩ := hv
  have hx := B.exec
  have hb := B.bytes
  have hr := B.returns
  have hts : ∀ w ∈ TB, w.before _ s = true := fun w h => atoms_spec (ws := wd yX11_by cX11_by 2 (some .int)) B.pre w (List.mem_cons_of_mem _ h)
  have hown : s.vm.findClass RX11 = some m.cls := findClass_of_methodNamed B.named
  have hlocks := B.notSynchronized
  have hF : CallFix p m c cX11_by 2 s _ TB RX11 := ⟨hx, hb, hml, hown, hts⟩
  have hl := lv_entry ([.ref (a 0), .int x]) (n := 2) (Nat.le_of_ble_eq_true rfl)
  rw [lg_entry_eq]
  generalize (lg_sl ([.ref (a 0), .int x]) ++ List.replicate (2 - (lg_sl ([.ref (a 0), .int x])).length) Slot.unset).toArray = ls at hl ⊢
  have hl : lv_has ls 2 [(0, .ref (a 0)), (1, .int x)] := hl
  have hS : va_S NoF s.heap s.heap [] := va_S.rf
  have hP : va_P D classes [(a 0, .inr (11, [.ref (a 1), .ref (a 20), .ref (a 3), .ref (a 40), .ref (a 4), .int 0, .ref (a 5), .ref (a 14), .ref (a 15), .ref (a 16), .ref (a 17), .ref (a 18)])), (a 40, .inr (0, [.int 0, .int 0, .int 0, .int 0, .int 0, .int 0, .int 0, .int 0, .ref (a 41), .ref (a 42), .ref (a 43), .ref (a 44), .ref (a 45), .ref (a 46), .ref (a 47), .ref (a 48), .ref (a 49), .ref (a 50), .ref (a 54)]))] s.heap := hP
  refine lv_aload_n hx hb dX11_by_0 rfl (lv_at hl 0 rfl) ?_
  refine va_get (D := D) (ci := 11) (v := .ref (a 40)) (C := RX11) (T := TX11) (N := 12) hx hb hts iX11 hown hK hP 0 rfl rfl 3 (by decide) (hts _ m_436) (fun _ h9 => h9) rfl dX11_by_1 ?_
  refine x_pV hF (c_X0_isNone l D t a) m_892 m_893 m_894 m_3 m_895 hd_X0_isNone ⟨Nat.le_of_ble_eq_true rfl, Nat.le_of_ble_eq_true rfl⟩ hK hN hP hS [1] rfl 0 (ci := 0) rfl rfl rfl hl.1 rfl (Nat.le_of_ble_eq_true rfl) dX11_by_4 ⟨Nat.zero_le _, Nat.zero_le _⟩ (fun H locs hP hS => ?_)
  refine lv_if_ne (tgt := 24) hx hb dX11_by_7 (by decide) (fun _ => ?_) (fun c9 => absurd c9 (by decide))
  refine lv_bipush (v := (-2)) hx hb dX11_by_24 (by decide) ?_
  refine lv_goto (tgt := 37) hx hb dX11_by_26 (by decide) ?_
  exact W.iret (v := (-2)) hx hb hr (fun t9 ht hW => ⟨⟨(-2), (), rfl, rfl, trivial⟩, hS.F ht⟩) hS.2.2 dX11_by_37

set_option maxHeartbeats 4000000 in
set_option maxRecDepth 100000 in
theorem c_X11_cheapest (l : Launch) (D : va_G) (t : Nat → ClassId) (a : Nat → Nat) (x : Int32) : Met l yX11_cheapest (wd yX11_cheapest cX11_cheapest 2 (some .int)) (RM 2 0 0) (PreP D (TY t) [.ref (a 0), .int x] [(a 0, .inr (11, [.ref (a 1), .ref (a 20), .ref (a 3), .ref (a 40), .ref (a 4), .int 0, .ref (a 5), .ref (a 14), .ref (a 15), .ref (a 16), .ref (a 17), .ref (a 18)])), (a 40, .inr (0, [.int 0, .int 0, .int 0, .int 0, .int 0, .int 0, .int 0, .int 0, .ref (a 41), .ref (a 42), .ref (a 43), .ref (a 44), .ref (a 45), .ref (a 46), .ref (a 47), .ref (a 48), .ref (a 49), .ref (a 50), .ref (a 54)]))]) (QI (-2)) 0 0 NoF := by
  refine Met.ofW (cc := cX11_cheapest) (maxL := 2) (ret := (some .int)) (by decide) rfl ?_
  intro p e s m args below meth c s₁ B hml hv
  obtain ⟨rfl, hP, hK, hN⟩ := hv
  have hx := B.exec
  have hb := B.bytes
  have hr := B.returns
  have hts : ∀ w ∈ TB, w.before _ s = true := fun w h => atoms_spec (ws := wd yX11_cheapest cX11_cheapest 2 (some .int)) B.pre w (List.mem_cons_of_mem _ h)
  have hown : s.vm.findClass RX11 = some m.cls := findClass_of_methodNamed B.named
  have hlocks := B.notSynchronized
  have hF : CallFix p m c cX11_cheapest 2 s _ TB RX11 := ⟨hx, hb, hml, hown, hts⟩
  have hl := lv_entry ([.ref (a 0), .int x]) (n := 2) (Nat.le_of_ble_eq_true rfl)
  rw [lg_entry_eq]
  generalize (lg_sl ([.ref (a 0), .int x]) ++ List.replicate (2 - (lg_sl ([.ref (a 0), .int x])).length) Slot.unset).toArray = ls at hl ⊢
  have hl : lv_has ls 2 [(0, .ref (a 0)), (1, .int x)] := hl
  have hS : va_S NoF s.heap s.heap [] := va_S.rf
  have hP : va_P D classes [(a 0, .inr (11, [.ref (a 1), .ref (a 20), .ref (a 3), .ref (a 40), .ref (a 4), .int 0, .ref (a 5), .ref (a 14), .ref (a 15), .ref (a 16), .ref (a 17), .ref (a 18)])), (a 40, .inr (0, [.int 0, .int 0, .int 0, .int 0, .int 0, .int 0, .int 0, .int 0, .ref (a 41), .ref (a 42), .ref (a 43), .ref (a 44), .ref (a 45), .ref (a 46), .ref (a 47), .ref (a 48), .ref (a 49), .ref (a 50), .ref (a 54)]))] s.heap := hP
  refine lv_aload_n hx hb dX11_cheapest_0 rfl (lv_at hl 0 rfl) ?_
  refine va_get (D := D) (ci := 11) (v := .ref (a 40)) (C := RX11) (T := TX11) (N := 12) hx hb hts iX11 hown hK hP 0 rfl rfl 3 (by decide) (hts _ m_436) (fun _ h9 => h9) rfl dX11_cheapest_1 ?_
  refine lv_iload_n hx hb dX11_cheapest_4 rfl (lv_at hl 1 rfl) ?_
  refine x_pV hF (c_X0_hasDistrict l D t a x) m_721 m_722 m_723 m_3 m_724 hd_X0_hasDistrict ⟨Nat.le_of_ble_eq_true rfl, Nat.le_of_ble_eq_true rfl⟩ hK hN hP hS [1] rfl 0 (ci := 0) rfl rfl rfl hl.1 rfl (Nat.le_of_ble_eq_true rfl) dX11_cheapest_5 ⟨Nat.zero_le _, Nat.zero_le _⟩ (fun H locs hP hS => ?_)
  refine lv_if_eq (tgt := 22) hx hb dX11_cheapest_8 (by decide) (fun _ => ?_) (fun c9 => absurd (by decide) c9)
  refine lv_bipush (v := (-2)) hx hb dX11_cheapest_22 (by decide) ?_
  exact W.iret (v := (-2)) hx hb hr (fun t9 ht hW => ⟨⟨(-2), (), rfl, rfl, trivial⟩, hS.F ht⟩) hS.2.2 dX11_cheapest_24

set_option maxHeartbeats 4000000 in
set_option maxRecDepth 100000 in
theorem c_X11_cover (l : Launch) (D : va_G) (t : Nat → ClassId) (a : Nat → Nat) (x : Int32) : Met l yX11_cover (wd yX11_cover cX11_cover 3 (some .int)) (RM 2 0 0) (PreP D (TY t) [.ref (a 0), .int x] [(a 0, .inr (11, [.ref (a 1), .ref (a 20), .ref (a 3), .ref (a 40), .ref (a 4), .int 0, .ref (a 5), .ref (a 14), .ref (a 15), .ref (a 16), .ref (a 17), .ref (a 18)])), (a 40, .inr (0, [.int 0, .int 0, .int 0, .int 0, .int 0, .int 0, .int 0, .int 0, .ref (a 41), .ref (a 42), .ref (a 43), .ref (a 44), .ref (a 45), .ref (a 46), .ref (a 47), .ref (a 48), .ref (a 49), .ref (a 50), .ref (a 54)]))]) (QI (-2)) 0 0 NoF := by
  refine Met.ofW (cc := cX11_cover) (maxL := 3) (ret := (some .int)) (by decide) rfl ?_
  intro p e s m args below meth c s₁ B hml hv
  obtain ⟨rfl, hP, hK, hN⟩ := hv
  have hx := B.exec
  have hb := B.bytes
  have hr := B.returns
  have hts : ∀ w ∈ TB, w.before _ s = true := fun w h => atoms_spec (ws := wd yX11_cover cX11_cover 3 (some .int)) B.pre w (List.mem_cons_of_mem _ h)
  have hown : s.vm.findClass RX11 = some m.cls := findClass_of_methodNamed B.named
  have hlocks := B.notSynchronized
  have hF : CallFix p m c cX11_cover 3 s _ TB RX11 := ⟨hx, hb, hml, hown, hts⟩
  have hl := lv_entry ([.ref (a 0), .int x]) (n := 3) (Nat.le_of_ble_eq_true rfl)
  rw [lg_entry_eq]
  generalize (lg_sl ([.ref (a 0), .int x]) ++ List.replicate (3 - (lg_sl ([.ref (a 0), .int x])).length) Slot.unset).toArray = ls at hl ⊢
  have hl : lv_has ls 3 [(0, .ref (a 0)), (1, .int x)] := hl
  have hS : va_S NoF s.heap s.heap [] := va_S.rf
  have hP : va_P D classes [(a 0, .inr (11, [.ref (a 1), .ref (a 20), .ref (a 3), .ref (a 40), .ref (a 4), .int 0, .ref (a 5), .ref (a 14), .ref (a 15), .ref (a 16), .ref (a 17), .ref (a 18)])), (a 40, .inr (0, [.int 0, .int 0, .int 0, .int 0, .int 0, .int 0, .int 0, .int 0, .ref (a 41), .ref (a 42), .ref (a 43), .ref (a 44), .ref (a 45), .ref (a 46), .ref (a 47), .ref (a 48), .ref (a 49), .ref (a 50), .ref (a 54)]))] s.heap := hP
  refine lv_aload_n hx hb dX11_cover_0 rfl (lv_at hl 0 rfl) ?_
  refine va_get (D := D) (ci := 11) (v := .ref (a 40)) (C := RX11) (T := TX11) (N := 12) hx hb hts iX11 hown hK hP 0 rfl rfl 3 (by decide) (hts _ m_436) (fun _ h9 => h9) rfl dX11_cover_1 ?_
  refine x_pV hF (c_X0_isNone l D t a) m_892 m_893 m_894 m_3 m_895 hd_X0_isNone ⟨Nat.le_of_ble_eq_true rfl, Nat.le_of_ble_eq_true rfl⟩ hK hN hP hS [1] rfl 0 (ci := 0) rfl rfl rfl hl.1 rfl (Nat.le_of_ble_eq_true rfl) dX11_cover_4 ⟨Nat.zero_le _, Nat.zero_le _⟩ (fun H locs hP hS => ?_)
  refine lv_if_ne (tgt := 24) hx hb dX11_cover_7 (by decide) (fun _ => ?_) (fun c9 => absurd c9 (by decide))
  refine lv_bipush (v := (-2)) hx hb dX11_cover_24 (by decide) ?_
  exact W.iret (v := (-2)) hx hb hr (fun t9 ht hW => ⟨⟨(-2), (), rfl, rfl, trivial⟩, hS.F ht⟩) hS.2.2 dX11_cover_26

set_option maxHeartbeats 4000000 in
set_option maxRecDepth 100000 in
theorem c_X11_covers (l : Launch) (D : va_G) (t : Nat → ClassId) (a : Nat → Nat) (x : Int32) : Met l yX11_covers (wd yX11_covers cX11_covers 2 (some .int)) (RM 2 0 0) (PreP D (TY t) [.ref (a 0), .int x] [(a 0, .inr (11, [.ref (a 1), .ref (a 20), .ref (a 3), .ref (a 40), .ref (a 4), .int 0, .ref (a 5), .ref (a 14), .ref (a 15), .ref (a 16), .ref (a 17), .ref (a 18)])), (a 40, .inr (0, [.int 0, .int 0, .int 0, .int 0, .int 0, .int 0, .int 0, .int 0, .ref (a 41), .ref (a 42), .ref (a 43), .ref (a 44), .ref (a 45), .ref (a 46), .ref (a 47), .ref (a 48), .ref (a 49), .ref (a 50), .ref (a 54)]))]) (QI (-2)) 0 0 NoF := by
  refine Met.ofW (cc := cX11_covers) (maxL := 2) (ret := (some .int)) (by decide) rfl ?_
  intro p e s m args below meth c s₁ B hml hv
  obtain ⟨rfl, hP, hK, hN⟩ := hv
  have hx := B.exec
  have hb := B.bytes
  have hr := B.returns
  have hts : ∀ w ∈ TB, w.before _ s = true := fun w h => atoms_spec (ws := wd yX11_covers cX11_covers 2 (some .int)) B.pre w (List.mem_cons_of_mem _ h)
  have hown : s.vm.findClass RX11 = some m.cls := findClass_of_methodNamed B.named
  have hlocks := B.notSynchronized
  have hF : CallFix p m c cX11_covers 2 s _ TB RX11 := ⟨hx, hb, hml, hown, hts⟩
  have hl := lv_entry ([.ref (a 0), .int x]) (n := 2) (Nat.le_of_ble_eq_true rfl)
  rw [lg_entry_eq]
  generalize (lg_sl ([.ref (a 0), .int x]) ++ List.replicate (2 - (lg_sl ([.ref (a 0), .int x])).length) Slot.unset).toArray = ls at hl ⊢
  have hl : lv_has ls 2 [(0, .ref (a 0)), (1, .int x)] := hl
  have hS : va_S NoF s.heap s.heap [] := va_S.rf
  have hP : va_P D classes [(a 0, .inr (11, [.ref (a 1), .ref (a 20), .ref (a 3), .ref (a 40), .ref (a 4), .int 0, .ref (a 5), .ref (a 14), .ref (a 15), .ref (a 16), .ref (a 17), .ref (a 18)])), (a 40, .inr (0, [.int 0, .int 0, .int 0, .int 0, .int 0, .int 0, .int 0, .int 0, .ref (a 41), .ref (a 42), .ref (a 43), .ref (a 44), .ref (a 45), .ref (a 46), .ref (a 47), .ref (a 48), .ref (a 49), .ref (a 50), .ref (a 54)]))] s.heap := hP
  refine lv_aload_n hx hb dX11_covers_0 rfl (lv_at hl 0 rfl) ?_
  refine va_get (D := D) (ci := 11) (v := .ref (a 40)) (C := RX11) (T := TX11) (N := 12) hx hb hts iX11 hown hK hP 0 rfl rfl 3 (by decide) (hts _ m_436) (fun _ h9 => h9) rfl dX11_covers_1 ?_
  refine x_pV hF (c_X0_isNone l D t a) m_892 m_893 m_894 m_3 m_895 hd_X0_isNone ⟨Nat.le_of_ble_eq_true rfl, Nat.le_of_ble_eq_true rfl⟩ hK hN hP hS [1] rfl 0 (ci := 0) rfl rfl rfl hl.1 rfl (Nat.le_of_ble_eq_true rfl) dX11_covers_4 ⟨Nat.zero_le _, Nat.zero_le _⟩ (fun H locs hP hS => ?_)
  refine lv_if_ne (tgt := 24) hx hb dX11_covers_7 (by decide) (fun _ => ?_) (fun c9 => absurd c9 (by decide))
  refine lv_bipush (v := (-2)) hx hb dX11_covers_24 (by decide) ?_
  refine lv_goto (tgt := 37) hx hb dX11_covers_26 (by decide) ?_
  exact W.iret (v := (-2)) hx hb hr (fun t9 ht hW => ⟨⟨(-2), (), rfl, rfl, trivial⟩, hS.F ht⟩) hS.2.2 dX11_covers_37

set_option maxHeartbeats 4000000 in
set_option maxRecDepth 100000 in
theorem c_X11_house (l : Launch) (D : va_G) (t : Nat → ClassId) (a : Nat → Nat) : Met l yX11_house (wd yX11_house cX11_house 1 (some .int)) (RM 2 0 0) (PreP D (TY t) [.ref (a 0)] [(a 0, .inr (11, [.ref (a 1), .ref (a 20), .ref (a 3), .ref (a 40), .ref (a 4), .int 0, .ref (a 5), .ref (a 14), .ref (a 15), .ref (a 16), .ref (a 17), .ref (a 18)])), (a 40, .inr (0, [.int 0, .int 0, .int 0, .int 0, .int 0, .int 0, .int 0, .int 0, .ref (a 41), .ref (a 42), .ref (a 43), .ref (a 44), .ref (a 45), .ref (a 46), .ref (a 47), .ref (a 48), .ref (a 49), .ref (a 50), .ref (a 54)]))]) (QI (-2)) 0 0 NoF := by
  refine Met.ofW (cc := cX11_house) (maxL := 1) (ret := (some .int)) (by decide) rfl ?_
  intro p e s m args below meth c s₁ B hml hv
  obtain ⟨rfl, hP, hK, hN⟩ := hv
  have hx := B.exec
  have hb := B.bytes
  have hr := B.returns
  have hts : ∀ w ∈ TB, w.before _ s = true := fun w h => atoms_spec (ws := wd yX11_house cX11_house 1 (some .int)) B.pre w (List.mem_cons_of_mem _ h)
  have hown : s.vm.findClass RX11 = some m.cls := findClass_of_methodNamed B.named
  have hlocks := B.notSynchronized
  have hF : CallFix p m c cX11_house 1 s _ TB RX11 := ⟨hx, hb, hml, hown, hts⟩
  have hl := lv_entry ([.ref (a 0)]) (n := 1) (Nat.le_of_ble_eq_true rfl)
  rw [lg_entry_eq]
  generalize (lg_sl ([.ref (a 0)]) ++ List.replicate (1 - (lg_sl ([.ref (a 0)])).length) Slot.unset).toArray = ls at hl ⊢
  have hl : lv_has ls 1 [(0, .ref (a 0))] := hl
  have hS : va_S NoF s.heap s.heap [] := va_S.rf
  have hP : va_P D classes [(a 0, .inr (11, [.ref (a 1), .ref (a 20), .ref (a 3), .ref (a 40), .ref (a 4), .int 0, .ref (a 5), .ref (a 14), .ref (a 15), .ref (a 16), .ref (a 17), .ref (a 18)])), (a 40, .inr (0, [.int 0, .int 0, .int 0, .int 0, .int 0, .int 0, .int 0, .int 0, .ref (a 41), .ref (a 42), .ref (a 43), .ref (a 44), .ref (a 45), .ref (a 46), .ref (a 47), .ref (a 48), .ref (a 49), .ref (a 50), .ref (a 54)]))] s.heap := hP
  refine lv_aload_n hx hb dX11_house_0 rfl (lv_at hl 0 rfl) ?_
  refine va_get (D := D) (ci := 11) (v := .ref (a 40)) (C := RX11) (T := TX11) (N := 12) hx hb hts iX11 hown hK hP 0 rfl rfl 3 (by decide) (hts _ m_436) (fun _ h9 => h9) rfl dX11_house_1 ?_
  refine x_pV hF (c_X0_isNone l D t a) m_892 m_893 m_894 m_3 m_895 hd_X0_isNone ⟨Nat.le_of_ble_eq_true rfl, Nat.le_of_ble_eq_true rfl⟩ hK hN hP hS [1] rfl 0 (ci := 0) rfl rfl rfl hl.1 rfl (Nat.le_of_ble_eq_true rfl) dX11_house_4 ⟨Nat.zero_le _, Nat.zero_le _⟩ (fun H locs hP hS => ?_)
  refine lv_if_eq (tgt := 15) hx hb dX11_house_7 (by decide) (fun c9 => absurd c9 (by decide)) (fun _ => ?_)
  refine lv_bipush (v := (-2)) hx hb dX11_house_10 (by decide) ?_
  refine lv_goto (tgt := 29) hx hb dX11_house_12 (by decide) ?_
  exact W.iret (v := (-2)) hx hb hr (fun t9 ht hW => ⟨⟨(-2), (), rfl, rfl, trivial⟩, hS.F ht⟩) hS.2.2 dX11_house_29

set_option maxHeartbeats 4000000 in
set_option maxRecDepth 100000 in
theorem c_X11_housed (l : Launch) (D : va_G) (t : Nat → ClassId) (a : Nat → Nat) : Met l yX11_housed (wd yX11_housed cX11_housed 1 (some .int)) (RM 2 0 0) (PreP D (TY t) [.ref (a 0)] [(a 0, .inr (11, [.ref (a 1), .ref (a 20), .ref (a 3), .ref (a 40), .ref (a 4), .int 0, .ref (a 5), .ref (a 14), .ref (a 15), .ref (a 16), .ref (a 17), .ref (a 18)])), (a 40, .inr (0, [.int 0, .int 0, .int 0, .int 0, .int 0, .int 0, .int 0, .int 0, .ref (a 41), .ref (a 42), .ref (a 43), .ref (a 44), .ref (a 45), .ref (a 46), .ref (a 47), .ref (a 48), .ref (a 49), .ref (a 50), .ref (a 54)]))]) (QI (-2)) 0 0 NoF := by
  refine Met.ofW (cc := cX11_housed) (maxL := 1) (ret := (some .int)) (by decide) rfl ?_
  intro p e s m args below meth c s₁ B hml hv
  obtain ⟨rfl, hP, hK, hN⟩ := hv
  have hx := B.exec
  have hb := B.bytes
  have hr := B.returns
  have hts : ∀ w ∈ TB, w.before _ s = true := fun w h => atoms_spec (ws := wd yX11_housed cX11_housed 1 (some .int)) B.pre w (List.mem_cons_of_mem _ h)
  have hown : s.vm.findClass RX11 = some m.cls := findClass_of_methodNamed B.named
  have hlocks := B.notSynchronized
  have hF : CallFix p m c cX11_housed 1 s _ TB RX11 := ⟨hx, hb, hml, hown, hts⟩
  have hl := lv_entry ([.ref (a 0)]) (n := 1) (Nat.le_of_ble_eq_true rfl)
  rw [lg_entry_eq]
  generalize (lg_sl ([.ref (a 0)]) ++ List.replicate (1 - (lg_sl ([.ref (a 0)])).length) Slot.unset).toArray = ls at hl ⊢
  have hl : lv_has ls 1 [(0, .ref (a 0))] := hl
  have hS : va_S NoF s.heap s.heap [] := va_S.rf
  have hP : va_P D classes [(a 0, .inr (11, [.ref (a 1), .ref (a 20), .ref (a 3), .ref (a 40), .ref (a 4), .int 0, .ref (a 5), .ref (a 14), .ref (a 15), .ref (a 16), .ref (a 17), .ref (a 18)])), (a 40, .inr (0, [.int 0, .int 0, .int 0, .int 0, .int 0, .int 0, .int 0, .int 0, .ref (a 41), .ref (a 42), .ref (a 43), .ref (a 44), .ref (a 45), .ref (a 46), .ref (a 47), .ref (a 48), .ref (a 49), .ref (a 50), .ref (a 54)]))] s.heap := hP
  refine lv_aload_n hx hb dX11_housed_0 rfl (lv_at hl 0 rfl) ?_
  refine va_get (D := D) (ci := 11) (v := .ref (a 40)) (C := RX11) (T := TX11) (N := 12) hx hb hts iX11 hown hK hP 0 rfl rfl 3 (by decide) (hts _ m_436) (fun _ h9 => h9) rfl dX11_housed_1 ?_
  refine x_pV hF (c_X0_isNone l D t a) m_892 m_893 m_894 m_3 m_895 hd_X0_isNone ⟨Nat.le_of_ble_eq_true rfl, Nat.le_of_ble_eq_true rfl⟩ hK hN hP hS [1] rfl 0 (ci := 0) rfl rfl rfl hl.1 rfl (Nat.le_of_ble_eq_true rfl) dX11_housed_4 ⟨Nat.zero_le _, Nat.zero_le _⟩ (fun H locs hP hS => ?_)
  refine lv_if_eq (tgt := 15) hx hb dX11_housed_7 (by decide) (fun c9 => absurd c9 (by decide)) (fun _ => ?_)
  refine lv_bipush (v := (-2)) hx hb dX11_housed_10 (by decide) ?_
  refine lv_goto (tgt := 22) hx hb dX11_housed_12 (by decide) ?_
  exact W.iret (v := (-2)) hx hb hr (fun t9 ht hW => ⟨⟨(-2), (), rfl, rfl, trivial⟩, hS.F ht⟩) hS.2.2 dX11_housed_22

set_option maxHeartbeats 4000000 in
set_option maxRecDepth 100000 in
theorem c_X11_feint (l : Launch) (D : va_G) (t : Nat → ClassId) (a : Nat → Nat) (x : Int32) : Met l yX11_feint (wd yX11_feint cX11_feint 2 (some .int)) (RM 2 0 0) (PreP D (TY t) [.ref (a 0), .int x] [(a 0, .inr (11, [.ref (a 1), .ref (a 20), .ref (a 3), .ref (a 40), .ref (a 4), .int 0, .ref (a 5), .ref (a 14), .ref (a 15), .ref (a 16), .ref (a 17), .ref (a 18)])), (a 40, .inr (0, [.int 0, .int 0, .int 0, .int 0, .int 0, .int 0, .int 0, .int 0, .ref (a 41), .ref (a 42), .ref (a 43), .ref (a 44), .ref (a 45), .ref (a 46), .ref (a 47), .ref (a 48), .ref (a 49), .ref (a 50), .ref (a 54)]))]) (QI (-2)) 0 0 NoF := by
  refine Met.ofW (cc := cX11_feint) (maxL := 2) (ret := (some .int)) (by decide) rfl ?_
  intro p e s m args below meth c s₁ B hml hv
  obtain ⟨rfl, hP, hK, hN⟩ := hv
  have hx := B.exec
  have hb := B.bytes
  have hr := B.returns
  have hts : ∀ w ∈ TB, w.before _ s = true := fun w h => atoms_spec (ws := wd yX11_feint cX11_feint 2 (some .int)) B.pre w (List.mem_cons_of_mem _ h)
  have hown : s.vm.findClass RX11 = some m.cls := findClass_of_methodNamed B.named
  have hlocks := B.notSynchronized
  have hF : CallFix p m c cX11_feint 2 s _ TB RX11 := ⟨hx, hb, hml, hown, hts⟩
  have hl := lv_entry ([.ref (a 0), .int x]) (n := 2) (Nat.le_of_ble_eq_true rfl)
  rw [lg_entry_eq]
  generalize (lg_sl ([.ref (a 0), .int x]) ++ List.replicate (2 - (lg_sl ([.ref (a 0), .int x])).length) Slot.unset).toArray = ls at hl ⊢
  have hl : lv_has ls 2 [(0, .ref (a 0)), (1, .int x)] := hl
  have hS : va_S NoF s.heap s.heap [] := va_S.rf
  have hP : va_P D classes [(a 0, .inr (11, [.ref (a 1), .ref (a 20), .ref (a 3), .ref (a 40), .ref (a 4), .int 0, .ref (a 5), .ref (a 14), .ref (a 15), .ref (a 16), .ref (a 17), .ref (a 18)])), (a 40, .inr (0, [.int 0, .int 0, .int 0, .int 0, .int 0, .int 0, .int 0, .int 0, .ref (a 41), .ref (a 42), .ref (a 43), .ref (a 44), .ref (a 45), .ref (a 46), .ref (a 47), .ref (a 48), .ref (a 49), .ref (a 50), .ref (a 54)]))] s.heap := hP
  refine lv_aload_n hx hb dX11_feint_0 rfl (lv_at hl 0 rfl) ?_
  refine va_get (D := D) (ci := 11) (v := .ref (a 40)) (C := RX11) (T := TX11) (N := 12) hx hb hts iX11 hown hK hP 0 rfl rfl 3 (by decide) (hts _ m_436) (fun _ h9 => h9) rfl dX11_feint_1 ?_
  refine lv_iload_n hx hb dX11_feint_4 rfl (lv_at hl 1 rfl) ?_
  refine x_pV hF (c_X0_hasSpeaker l D t a x) m_713 m_714 m_715 m_3 m_716 hd_X0_hasSpeaker ⟨Nat.le_of_ble_eq_true rfl, Nat.le_of_ble_eq_true rfl⟩ hK hN hP hS [1] rfl 0 (ci := 0) rfl rfl rfl hl.1 rfl (Nat.le_of_ble_eq_true rfl) dX11_feint_5 ⟨Nat.zero_le _, Nat.zero_le _⟩ (fun H locs hP hS => ?_)
  refine lv_if_ne (tgt := 14) hx hb dX11_feint_8 (by decide) (fun c9 => absurd c9 (by decide)) (fun _ => ?_)
  refine lv_bipush (v := (-2)) hx hb dX11_feint_11 (by decide) ?_
  exact W.iret (v := (-2)) hx hb hr (fun t9 ht hW => ⟨⟨(-2), (), rfl, rfl, trivial⟩, hS.F ht⟩) hS.2.2 dX11_feint_13

set_option maxHeartbeats 4000000 in
set_option maxRecDepth 100000 in
theorem c_X11_gains (l : Launch) (D : va_G) (t : Nat → ClassId) (a : Nat → Nat) (x : Int32) : Met l yX11_gains (wd yX11_gains cX11_gains 2 (some .int)) (RM 2 0 0) (PreP D (TY t) [.ref (a 0), .int x] [(a 0, .inr (11, [.ref (a 1), .ref (a 20), .ref (a 3), .ref (a 40), .ref (a 4), .int 0, .ref (a 5), .ref (a 14), .ref (a 15), .ref (a 16), .ref (a 17), .ref (a 18)])), (a 40, .inr (0, [.int 0, .int 0, .int 0, .int 0, .int 0, .int 0, .int 0, .int 0, .ref (a 41), .ref (a 42), .ref (a 43), .ref (a 44), .ref (a 45), .ref (a 46), .ref (a 47), .ref (a 48), .ref (a 49), .ref (a 50), .ref (a 54)]))]) (QI (-2)) 0 0 NoF := by
  refine Met.ofW (cc := cX11_gains) (maxL := 2) (ret := (some .int)) (by decide) rfl ?_
  intro p e s m args below meth c s₁ B hml hv
  obtain ⟨rfl, hP, hK, hN⟩ := hv
  have hx := B.exec
  have hb := B.bytes
  have hr := B.returns
  have hts : ∀ w ∈ TB, w.before _ s = true := fun w h => atoms_spec (ws := wd yX11_gains cX11_gains 2 (some .int)) B.pre w (List.mem_cons_of_mem _ h)
  have hown : s.vm.findClass RX11 = some m.cls := findClass_of_methodNamed B.named
  have hlocks := B.notSynchronized
  have hF : CallFix p m c cX11_gains 2 s _ TB RX11 := ⟨hx, hb, hml, hown, hts⟩
  have hl := lv_entry ([.ref (a 0), .int x]) (n := 2) (Nat.le_of_ble_eq_true rfl)
  rw [lg_entry_eq]
  generalize (lg_sl ([.ref (a 0), .int x]) ++ List.replicate (2 - (lg_sl ([.ref (a 0), .int x])).length) Slot.unset).toArray = ls at hl ⊢
  have hl : lv_has ls 2 [(0, .ref (a 0)), (1, .int x)] := hl
  have hS : va_S NoF s.heap s.heap [] := va_S.rf
  have hP : va_P D classes [(a 0, .inr (11, [.ref (a 1), .ref (a 20), .ref (a 3), .ref (a 40), .ref (a 4), .int 0, .ref (a 5), .ref (a 14), .ref (a 15), .ref (a 16), .ref (a 17), .ref (a 18)])), (a 40, .inr (0, [.int 0, .int 0, .int 0, .int 0, .int 0, .int 0, .int 0, .int 0, .ref (a 41), .ref (a 42), .ref (a 43), .ref (a 44), .ref (a 45), .ref (a 46), .ref (a 47), .ref (a 48), .ref (a 49), .ref (a 50), .ref (a 54)]))] s.heap := hP
  refine lv_aload_n hx hb dX11_gains_0 rfl (lv_at hl 0 rfl) ?_
  refine va_get (D := D) (ci := 11) (v := .ref (a 40)) (C := RX11) (T := TX11) (N := 12) hx hb hts iX11 hown hK hP 0 rfl rfl 3 (by decide) (hts _ m_436) (fun _ h9 => h9) rfl dX11_gains_1 ?_
  refine lv_iload_n hx hb dX11_gains_4 rfl (lv_at hl 1 rfl) ?_
  refine x_pV hF (c_X0_hasSpeaker l D t a x) m_713 m_714 m_715 m_3 m_716 hd_X0_hasSpeaker ⟨Nat.le_of_ble_eq_true rfl, Nat.le_of_ble_eq_true rfl⟩ hK hN hP hS [1] rfl 0 (ci := 0) rfl rfl rfl hl.1 rfl (Nat.le_of_ble_eq_true rfl) dX11_gains_5 ⟨Nat.zero_le _, Nat.zero_le _⟩ (fun H locs hP hS => ?_)
  refine lv_if_ne (tgt := 14) hx hb dX11_gains_8 (by decide) (fun c9 => absurd c9 (by decide)) (fun _ => ?_)
  refine lv_bipush (v := (-2)) hx hb dX11_gains_11 (by decide) ?_
  exact W.iret (v := (-2)) hx hb hr (fun t9 ht hW => ⟨⟨(-2), (), rfl, rfl, trivial⟩, hS.F ht⟩) hS.2.2 dX11_gains_13

set_option maxHeartbeats 4000000 in
set_option maxRecDepth 100000 in
theorem c_X11_restless (l : Launch) (D : va_G) (t : Nat → ClassId) (a : Nat → Nat) : Met l yX11_restless (wd yX11_restless cX11_restless 3 (some .int)) (RM 2 0 0) (PreP D (TY t) [.ref (a 0)] [(a 0, .inr (11, [.ref (a 1), .ref (a 20), .ref (a 3), .ref (a 40), .ref (a 4), .int 0, .ref (a 5), .ref (a 14), .ref (a 15), .ref (a 16), .ref (a 17), .ref (a 18)])), (a 40, .inr (0, [.int 0, .int 0, .int 0, .int 0, .int 0, .int 0, .int 0, .int 0, .ref (a 41), .ref (a 42), .ref (a 43), .ref (a 44), .ref (a 45), .ref (a 46), .ref (a 47), .ref (a 48), .ref (a 49), .ref (a 50), .ref (a 54)]))]) (QI (-2)) 0 0 NoF := by
  refine Met.ofW (cc := cX11_restless) (maxL := 3) (ret := (some .int)) (by decide) rfl ?_
  intro p e s m args below meth c s₁ B hml hv
  obtain ⟨rfl, hP, hK, hN⟩ := hv
  have hx := B.exec
  have hb := B.bytes
  have hr := B.returns
  have hts : ∀ w ∈ TB, w.before _ s = true := fun w h => atoms_spec (ws := wd yX11_restless cX11_restless 3 (some .int)) B.pre w (List.mem_cons_of_mem _ h)
  have hown : s.vm.findClass RX11 = some m.cls := findClass_of_methodNamed B.named
  have hlocks := B.notSynchronized
  have hF : CallFix p m c cX11_restless 3 s _ TB RX11 := ⟨hx, hb, hml, hown, hts⟩
  have hl := lv_entry ([.ref (a 0)]) (n := 3) (Nat.le_of_ble_eq_true rfl)
  rw [lg_entry_eq]
  generalize (lg_sl ([.ref (a 0)]) ++ List.replicate (3 - (lg_sl ([.ref (a 0)])).length) Slot.unset).toArray = ls at hl ⊢
  have hl : lv_has ls 3 [(0, .ref (a 0))] := hl
  have hS : va_S NoF s.heap s.heap [] := va_S.rf
  have hP : va_P D classes [(a 0, .inr (11, [.ref (a 1), .ref (a 20), .ref (a 3), .ref (a 40), .ref (a 4), .int 0, .ref (a 5), .ref (a 14), .ref (a 15), .ref (a 16), .ref (a 17), .ref (a 18)])), (a 40, .inr (0, [.int 0, .int 0, .int 0, .int 0, .int 0, .int 0, .int 0, .int 0, .ref (a 41), .ref (a 42), .ref (a 43), .ref (a 44), .ref (a 45), .ref (a 46), .ref (a 47), .ref (a 48), .ref (a 49), .ref (a 50), .ref (a 54)]))] s.heap := hP
  refine lv_aload_n hx hb dX11_restless_0 rfl (lv_at hl 0 rfl) ?_
  refine va_get (D := D) (ci := 11) (v := .ref (a 40)) (C := RX11) (T := TX11) (N := 12) hx hb hts iX11 hown hK hP 0 rfl rfl 3 (by decide) (hts _ m_436) (fun _ h9 => h9) rfl dX11_restless_1 ?_
  refine x_pV hF (c_X0_isNone l D t a) m_892 m_893 m_894 m_3 m_895 hd_X0_isNone ⟨Nat.le_of_ble_eq_true rfl, Nat.le_of_ble_eq_true rfl⟩ hK hN hP hS [1] rfl 0 (ci := 0) rfl rfl rfl hl.1 rfl (Nat.le_of_ble_eq_true rfl) dX11_restless_4 ⟨Nat.zero_le _, Nat.zero_le _⟩ (fun H locs hP hS => ?_)
  refine lv_if_eq (tgt := 13) hx hb dX11_restless_7 (by decide) (fun c9 => absurd c9 (by decide)) (fun _ => ?_)
  refine lv_bipush (v := (-2)) hx hb dX11_restless_10 (by decide) ?_
  exact W.iret (v := (-2)) hx hb hr (fun t9 ht hW => ⟨⟨(-2), (), rfl, rfl, trivial⟩, hS.F ht⟩) hS.2.2 dX11_restless_12

set_option maxHeartbeats 4000000 in
set_option maxRecDepth 100000 in
theorem c_X11_seats (l : Launch) (D : va_G) (t : Nat → ClassId) (a : Nat → Nat) (x : Int32) : Met l yX11_seats (wd yX11_seats cX11_seats 2 (some .int)) (RM 2 0 0) (PreP D (TY t) [.ref (a 0), .int x] [(a 0, .inr (11, [.ref (a 1), .ref (a 20), .ref (a 3), .ref (a 40), .ref (a 4), .int 0, .ref (a 5), .ref (a 14), .ref (a 15), .ref (a 16), .ref (a 17), .ref (a 18)])), (a 40, .inr (0, [.int 0, .int 0, .int 0, .int 0, .int 0, .int 0, .int 0, .int 0, .ref (a 41), .ref (a 42), .ref (a 43), .ref (a 44), .ref (a 45), .ref (a 46), .ref (a 47), .ref (a 48), .ref (a 49), .ref (a 50), .ref (a 54)]))]) (QI (-2)) 0 0 NoF := by
  refine Met.ofW (cc := cX11_seats) (maxL := 2) (ret := (some .int)) (by decide) rfl ?_
  intro p e s m args below meth c s₁ B hml hv
  obtain ⟨rfl, hP, hK, hN⟩ := hv
  have hx := B.exec
  have hb := B.bytes
  have hr := B.returns
  have hts : ∀ w ∈ TB, w.before _ s = true := fun w h => atoms_spec (ws := wd yX11_seats cX11_seats 2 (some .int)) B.pre w (List.mem_cons_of_mem _ h)
  have hown : s.vm.findClass RX11 = some m.cls := findClass_of_methodNamed B.named
  have hlocks := B.notSynchronized
  have hF : CallFix p m c cX11_seats 2 s _ TB RX11 := ⟨hx, hb, hml, hown, hts⟩
  have hl := lv_entry ([.ref (a 0), .int x]) (n := 2) (Nat.le_of_ble_eq_true rfl)
  rw [lg_entry_eq]
  generalize (lg_sl ([.ref (a 0), .int x]) ++ List.replicate (2 - (lg_sl ([.ref (a 0), .int x])).length) Slot.unset).toArray = ls at hl ⊢
  have hl : lv_has ls 2 [(0, .ref (a 0)), (1, .int x)] := hl
  have hS : va_S NoF s.heap s.heap [] := va_S.rf
  have hP : va_P D classes [(a 0, .inr (11, [.ref (a 1), .ref (a 20), .ref (a 3), .ref (a 40), .ref (a 4), .int 0, .ref (a 5), .ref (a 14), .ref (a 15), .ref (a 16), .ref (a 17), .ref (a 18)])), (a 40, .inr (0, [.int 0, .int 0, .int 0, .int 0, .int 0, .int 0, .int 0, .int 0, .ref (a 41), .ref (a 42), .ref (a 43), .ref (a 44), .ref (a 45), .ref (a 46), .ref (a 47), .ref (a 48), .ref (a 49), .ref (a 50), .ref (a 54)]))] s.heap := hP
  refine lv_aload_n hx hb dX11_seats_0 rfl (lv_at hl 0 rfl) ?_
  refine va_get (D := D) (ci := 11) (v := .ref (a 40)) (C := RX11) (T := TX11) (N := 12) hx hb hts iX11 hown hK hP 0 rfl rfl 3 (by decide) (hts _ m_436) (fun _ h9 => h9) rfl dX11_seats_1 ?_
  refine x_pV hF (c_X0_isNone l D t a) m_892 m_893 m_894 m_3 m_895 hd_X0_isNone ⟨Nat.le_of_ble_eq_true rfl, Nat.le_of_ble_eq_true rfl⟩ hK hN hP hS [1] rfl 0 (ci := 0) rfl rfl rfl hl.1 rfl (Nat.le_of_ble_eq_true rfl) dX11_seats_4 ⟨Nat.zero_le _, Nat.zero_le _⟩ (fun H locs hP hS => ?_)
  refine lv_if_ne (tgt := 17) hx hb dX11_seats_7 (by decide) (fun _ => ?_) (fun c9 => absurd c9 (by decide))
  refine lv_bipush (v := (-2)) hx hb dX11_seats_17 (by decide) ?_
  refine lv_goto (tgt := 32) hx hb dX11_seats_19 (by decide) ?_
  exact W.iret (v := (-2)) hx hb hr (fun t9 ht hW => ⟨⟨(-2), (), rfl, rfl, trivial⟩, hS.F ht⟩) hS.2.2 dX11_seats_32

set_option maxHeartbeats 4000000 in
set_option maxRecDepth 100000 in
theorem c_X11_majority (l : Launch) (D : va_G) (t : Nat → ClassId) (a : Nat → Nat) (x : Int32) : Met l yX11_majority (wd yX11_majority cX11_majority 2 (some .int)) (RM 2 0 0) (PreP D (TY t) [.ref (a 0), .int x] [(a 0, .inr (11, [.ref (a 1), .ref (a 20), .ref (a 3), .ref (a 40), .ref (a 4), .int 0, .ref (a 5), .ref (a 14), .ref (a 15), .ref (a 16), .ref (a 17), .ref (a 18)])), (a 40, .inr (0, [.int 0, .int 0, .int 0, .int 0, .int 0, .int 0, .int 0, .int 0, .ref (a 41), .ref (a 42), .ref (a 43), .ref (a 44), .ref (a 45), .ref (a 46), .ref (a 47), .ref (a 48), .ref (a 49), .ref (a 50), .ref (a 54)]))]) (QI (-2)) 0 0 NoF := by
  refine Met.ofW (cc := cX11_majority) (maxL := 2) (ret := (some .int)) (by decide) rfl ?_
  intro p e s m args below meth c s₁ B hml hv
  obtain ⟨rfl, hP, hK, hN⟩ := hv
  have hx := B.exec
  have hb := B.bytes
  have hr := B.returns
  have hts : ∀ w ∈ TB, w.before _ s = true := fun w h => atoms_spec (ws := wd yX11_majority cX11_majority 2 (some .int)) B.pre w (List.mem_cons_of_mem _ h)
  have hown : s.vm.findClass RX11 = some m.cls := findClass_of_methodNamed B.named
  have hlocks := B.notSynchronized
  have hF : CallFix p m c cX11_majority 2 s _ TB RX11 := ⟨hx, hb, hml, hown, hts⟩
  have hl := lv_entry ([.ref (a 0), .int x]) (n := 2) (Nat.le_of_ble_eq_true rfl)
  rw [lg_entry_eq]
  generalize (lg_sl ([.ref (a 0), .int x]) ++ List.replicate (2 - (lg_sl ([.ref (a 0), .int x])).length) Slot.unset).toArray = ls at hl ⊢
  have hl : lv_has ls 2 [(0, .ref (a 0)), (1, .int x)] := hl
  have hS : va_S NoF s.heap s.heap [] := va_S.rf
  have hP : va_P D classes [(a 0, .inr (11, [.ref (a 1), .ref (a 20), .ref (a 3), .ref (a 40), .ref (a 4), .int 0, .ref (a 5), .ref (a 14), .ref (a 15), .ref (a 16), .ref (a 17), .ref (a 18)])), (a 40, .inr (0, [.int 0, .int 0, .int 0, .int 0, .int 0, .int 0, .int 0, .int 0, .ref (a 41), .ref (a 42), .ref (a 43), .ref (a 44), .ref (a 45), .ref (a 46), .ref (a 47), .ref (a 48), .ref (a 49), .ref (a 50), .ref (a 54)]))] s.heap := hP
  refine lv_aload_n hx hb dX11_majority_0 rfl (lv_at hl 0 rfl) ?_
  refine va_get (D := D) (ci := 11) (v := .ref (a 40)) (C := RX11) (T := TX11) (N := 12) hx hb hts iX11 hown hK hP 0 rfl rfl 3 (by decide) (hts _ m_436) (fun _ h9 => h9) rfl dX11_majority_1 ?_
  refine x_pV hF (c_X0_isNone l D t a) m_892 m_893 m_894 m_3 m_895 hd_X0_isNone ⟨Nat.le_of_ble_eq_true rfl, Nat.le_of_ble_eq_true rfl⟩ hK hN hP hS [1] rfl 0 (ci := 0) rfl rfl rfl hl.1 rfl (Nat.le_of_ble_eq_true rfl) dX11_majority_4 ⟨Nat.zero_le _, Nat.zero_le _⟩ (fun H locs hP hS => ?_)
  refine lv_if_ne (tgt := 18) hx hb dX11_majority_7 (by decide) (fun _ => ?_) (fun c9 => absurd c9 (by decide))
  refine lv_bipush (v := (-2)) hx hb dX11_majority_18 (by decide) ?_
  exact W.iret (v := (-2)) hx hb hr (fun t9 ht hW => ⟨⟨(-2), (), rfl, rfl, trivial⟩, hS.F ht⟩) hS.2.2 dX11_majority_20

set_option maxHeartbeats 4000000 in
set_option maxRecDepth 100000 in
theorem c_X11_share (l : Launch) (D : va_G) (t : Nat → ClassId) (a : Nat → Nat) (x : Int32) (y : Int32) : Met l yX11_share (wd yX11_share cX11_share 4 (some .int)) (RM 2 0 0) (PreP D (TY t) [.ref (a 0), .int x, .int y] [(a 0, .inr (11, [.ref (a 1), .ref (a 20), .ref (a 3), .ref (a 40), .ref (a 4), .int 0, .ref (a 5), .ref (a 14), .ref (a 15), .ref (a 16), .ref (a 17), .ref (a 18)])), (a 40, .inr (0, [.int 0, .int 0, .int 0, .int 0, .int 0, .int 0, .int 0, .int 0, .ref (a 41), .ref (a 42), .ref (a 43), .ref (a 44), .ref (a 45), .ref (a 46), .ref (a 47), .ref (a 48), .ref (a 49), .ref (a 50), .ref (a 54)]))]) (QI (-2)) 0 0 NoF := by
  refine Met.ofW (cc := cX11_share) (maxL := 4) (ret := (some .int)) (by decide) rfl ?_
  intro p e s m args below meth c s₁ B hml hv
  obtain ⟨rfl, hP, hK, hN⟩ := hv
  have hx := B.exec
  have hb := B.bytes
  have hr := B.returns
  have hts : ∀ w ∈ TB, w.before _ s = true := fun w h => atoms_spec (ws := wd yX11_share cX11_share 4 (some .int)) B.pre w (List.mem_cons_of_mem _ h)
  have hown : s.vm.findClass RX11 = some m.cls := findClass_of_methodNamed B.named
  have hlocks := B.notSynchronized
  have hF : CallFix p m c cX11_share 4 s _ TB RX11 := ⟨hx, hb, hml, hown, hts⟩
  have hl := lv_entry ([.ref (a 0), .int x, .int y]) (n := 4) (Nat.le_of_ble_eq_true rfl)
  rw [lg_entry_eq]
  generalize (lg_sl ([.ref (a 0), .int x, .int y]) ++ List.replicate (4 - (lg_sl ([.ref (a 0), .int x, .int y])).length) Slot.unset).toArray = ls at hl ⊢
  have hl : lv_has ls 4 [(0, .ref (a 0)), (1, .int x), (2, .int y)] := hl
  have hS : va_S NoF s.heap s.heap [] := va_S.rf
  have hP : va_P D classes [(a 0, .inr (11, [.ref (a 1), .ref (a 20), .ref (a 3), .ref (a 40), .ref (a 4), .int 0, .ref (a 5), .ref (a 14), .ref (a 15), .ref (a 16), .ref (a 17), .ref (a 18)])), (a 40, .inr (0, [.int 0, .int 0, .int 0, .int 0, .int 0, .int 0, .int 0, .int 0, .ref (a 41), .ref (a 42), .ref (a 43), .ref (a 44), .ref (a 45), .ref (a 46), .ref (a 47), .ref (a 48), .ref (a 49), .ref (a 50), .ref (a 54)]))] s.heap := hP
  refine lv_aload_n hx hb dX11_share_0 rfl (lv_at hl 0 rfl) ?_
  refine va_get (D := D) (ci := 11) (v := .ref (a 40)) (C := RX11) (T := TX11) (N := 12) hx hb hts iX11 hown hK hP 0 rfl rfl 3 (by decide) (hts _ m_436) (fun _ h9 => h9) rfl dX11_share_1 ?_
  refine x_pV hF (c_X0_isNone l D t a) m_892 m_893 m_894 m_3 m_895 hd_X0_isNone ⟨Nat.le_of_ble_eq_true rfl, Nat.le_of_ble_eq_true rfl⟩ hK hN hP hS [1] rfl 0 (ci := 0) rfl rfl rfl hl.1 rfl (Nat.le_of_ble_eq_true rfl) dX11_share_4 ⟨Nat.zero_le _, Nat.zero_le _⟩ (fun H locs hP hS => ?_)
  refine lv_if_ne (tgt := 26) hx hb dX11_share_7 (by decide) (fun _ => ?_) (fun c9 => absurd c9 (by decide))
  refine lv_bipush (v := (-2)) hx hb dX11_share_26 (by decide) ?_
  exact W.iret (v := (-2)) hx hb hr (fun t9 ht hW => ⟨⟨(-2), (), rfl, rfl, trivial⟩, hS.F ht⟩) hS.2.2 dX11_share_28

set_option maxHeartbeats 4000000 in
set_option maxRecDepth 100000 in
theorem c_X11_coalition (l : Launch) (D : va_G) (t : Nat → ClassId) (a : Nat → Nat) : Met l yX11_coalition (wd yX11_coalition cX11_coalition 1 (some .int)) (RM 2 0 0) (PreP D (TY t) [.ref (a 0)] [(a 0, .inr (11, [.ref (a 1), .ref (a 20), .ref (a 3), .ref (a 40), .ref (a 4), .int 0, .ref (a 5), .ref (a 14), .ref (a 15), .ref (a 16), .ref (a 17), .ref (a 18)])), (a 40, .inr (0, [.int 0, .int 0, .int 0, .int 0, .int 0, .int 0, .int 0, .int 0, .ref (a 41), .ref (a 42), .ref (a 43), .ref (a 44), .ref (a 45), .ref (a 46), .ref (a 47), .ref (a 48), .ref (a 49), .ref (a 50), .ref (a 54)]))]) (QI (-2)) 0 0 NoF := by
  refine Met.ofW (cc := cX11_coalition) (maxL := 1) (ret := (some .int)) (by decide) rfl ?_
  intro p e s m args below meth c s₁ B hml hv
  obtain ⟨rfl, hP, hK, hN⟩ := hv
  have hx := B.exec
  have hb := B.bytes
  have hr := B.returns
  have hts : ∀ w ∈ TB, w.before _ s = true := fun w h => atoms_spec (ws := wd yX11_coalition cX11_coalition 1 (some .int)) B.pre w (List.mem_cons_of_mem _ h)
  have hown : s.vm.findClass RX11 = some m.cls := findClass_of_methodNamed B.named
  have hlocks := B.notSynchronized
  have hF : CallFix p m c cX11_coalition 1 s _ TB RX11 := ⟨hx, hb, hml, hown, hts⟩
  have hl := lv_entry ([.ref (a 0)]) (n := 1) (Nat.le_of_ble_eq_true rfl)
  rw [lg_entry_eq]
  generalize (lg_sl ([.ref (a 0)]) ++ List.replicate (1 - (lg_sl ([.ref (a 0)])).length) Slot.unset).toArray = ls at hl ⊢
  have hl : lv_has ls 1 [(0, .ref (a 0))] := hl
  have hS : va_S NoF s.heap s.heap [] := va_S.rf
  have hP : va_P D classes [(a 0, .inr (11, [.ref (a 1), .ref (a 20), .ref (a 3), .ref (a 40), .ref (a 4), .int 0, .ref (a 5), .ref (a 14), .ref (a 15), .ref (a 16), .ref (a 17), .ref (a 18)])), (a 40, .inr (0, [.int 0, .int 0, .int 0, .int 0, .int 0, .int 0, .int 0, .int 0, .ref (a 41), .ref (a 42), .ref (a 43), .ref (a 44), .ref (a 45), .ref (a 46), .ref (a 47), .ref (a 48), .ref (a 49), .ref (a 50), .ref (a 54)]))] s.heap := hP
  refine lv_aload_n hx hb dX11_coalition_0 rfl (lv_at hl 0 rfl) ?_
  refine va_get (D := D) (ci := 11) (v := .ref (a 40)) (C := RX11) (T := TX11) (N := 12) hx hb hts iX11 hown hK hP 0 rfl rfl 3 (by decide) (hts _ m_436) (fun _ h9 => h9) rfl dX11_coalition_1 ?_
  refine x_pV hF (c_X0_isNone l D t a) m_892 m_893 m_894 m_3 m_895 hd_X0_isNone ⟨Nat.le_of_ble_eq_true rfl, Nat.le_of_ble_eq_true rfl⟩ hK hN hP hS [1] rfl 0 (ci := 0) rfl rfl rfl hl.1 rfl (Nat.le_of_ble_eq_true rfl) dX11_coalition_4 ⟨Nat.zero_le _, Nat.zero_le _⟩ (fun H locs hP hS => ?_)
  refine lv_if_eq (tgt := 15) hx hb dX11_coalition_7 (by decide) (fun c9 => absurd c9 (by decide)) (fun _ => ?_)
  refine lv_bipush (v := (-2)) hx hb dX11_coalition_10 (by decide) ?_
  refine lv_goto (tgt := 22) hx hb dX11_coalition_12 (by decide) ?_
  exact W.iret (v := (-2)) hx hb hr (fun t9 ht hW => ⟨⟨(-2), (), rfl, rfl, trivial⟩, hS.F ht⟩) hS.2.2 dX11_coalition_22

set_option maxHeartbeats 4000000 in
set_option maxRecDepth 100000 in
theorem c_X11_breaks (l : Launch) (D : va_G) (t : Nat → ClassId) (a : Nat → Nat) (x : Int32) : Met l yX11_breaks (wd yX11_breaks cX11_breaks 2 (some .int)) (RM 2 0 0) (PreP D (TY t) [.ref (a 0), .int x] [(a 0, .inr (11, [.ref (a 1), .ref (a 20), .ref (a 3), .ref (a 40), .ref (a 4), .int 0, .ref (a 5), .ref (a 14), .ref (a 15), .ref (a 16), .ref (a 17), .ref (a 18)])), (a 40, .inr (0, [.int 0, .int 0, .int 0, .int 0, .int 0, .int 0, .int 0, .int 0, .ref (a 41), .ref (a 42), .ref (a 43), .ref (a 44), .ref (a 45), .ref (a 46), .ref (a 47), .ref (a 48), .ref (a 49), .ref (a 50), .ref (a 54)]))]) (QI (-2)) 0 0 NoF := by
  refine Met.ofW (cc := cX11_breaks) (maxL := 2) (ret := (some .int)) (by decide) rfl ?_
  intro p e s m args below meth c s₁ B hml hv
  obtain ⟨rfl, hP, hK, hN⟩ := hv
  have hx := B.exec
  have hb := B.bytes
  have hr := B.returns
  have hts : ∀ w ∈ TB, w.before _ s = true := fun w h => atoms_spec (ws := wd yX11_breaks cX11_breaks 2 (some .int)) B.pre w (List.mem_cons_of_mem _ h)
  have hown : s.vm.findClass RX11 = some m.cls := findClass_of_methodNamed B.named
  have hlocks := B.notSynchronized
  have hF : CallFix p m c cX11_breaks 2 s _ TB RX11 := ⟨hx, hb, hml, hown, hts⟩
  have hl := lv_entry ([.ref (a 0), .int x]) (n := 2) (Nat.le_of_ble_eq_true rfl)
  rw [lg_entry_eq]
  generalize (lg_sl ([.ref (a 0), .int x]) ++ List.replicate (2 - (lg_sl ([.ref (a 0), .int x])).length) Slot.unset).toArray = ls at hl ⊢
  have hl : lv_has ls 2 [(0, .ref (a 0)), (1, .int x)] := hl
  have hS : va_S NoF s.heap s.heap [] := va_S.rf
  have hP : va_P D classes [(a 0, .inr (11, [.ref (a 1), .ref (a 20), .ref (a 3), .ref (a 40), .ref (a 4), .int 0, .ref (a 5), .ref (a 14), .ref (a 15), .ref (a 16), .ref (a 17), .ref (a 18)])), (a 40, .inr (0, [.int 0, .int 0, .int 0, .int 0, .int 0, .int 0, .int 0, .int 0, .ref (a 41), .ref (a 42), .ref (a 43), .ref (a 44), .ref (a 45), .ref (a 46), .ref (a 47), .ref (a 48), .ref (a 49), .ref (a 50), .ref (a 54)]))] s.heap := hP
  refine lv_aload_n hx hb dX11_breaks_0 rfl (lv_at hl 0 rfl) ?_
  refine va_get (D := D) (ci := 11) (v := .ref (a 40)) (C := RX11) (T := TX11) (N := 12) hx hb hts iX11 hown hK hP 0 rfl rfl 3 (by decide) (hts _ m_436) (fun _ h9 => h9) rfl dX11_breaks_1 ?_
  refine x_pV hF (c_X0_isNone l D t a) m_892 m_893 m_894 m_3 m_895 hd_X0_isNone ⟨Nat.le_of_ble_eq_true rfl, Nat.le_of_ble_eq_true rfl⟩ hK hN hP hS [1] rfl 0 (ci := 0) rfl rfl rfl hl.1 rfl (Nat.le_of_ble_eq_true rfl) dX11_breaks_4 ⟨Nat.zero_le _, Nat.zero_le _⟩ (fun H locs hP hS => ?_)
  refine lv_if_ne (tgt := 18) hx hb dX11_breaks_7 (by decide) (fun _ => ?_) (fun c9 => absurd c9 (by decide))
  refine lv_bipush (v := (-2)) hx hb dX11_breaks_18 (by decide) ?_
  refine lv_goto (tgt := 31) hx hb dX11_breaks_20 (by decide) ?_
  exact W.iret (v := (-2)) hx hb hr (fun t9 ht hW => ⟨⟨(-2), (), rfl, rfl, trivial⟩, hS.F ht⟩) hS.2.2 dX11_breaks_31

set_option maxHeartbeats 4000000 in
set_option maxRecDepth 100000 in
theorem c_X11_lists (l : Launch) (D : va_G) (t : Nat → ClassId) (a : Nat → Nat) (x : Int32) (y : Int32) : Met l yX11_lists (wd yX11_lists cX11_lists 3 (some .int)) (RM 2 0 0) (PreP D (TY t) [.ref (a 0), .int x, .int y] [(a 0, .inr (11, [.ref (a 1), .ref (a 20), .ref (a 3), .ref (a 40), .ref (a 4), .int 0, .ref (a 5), .ref (a 14), .ref (a 15), .ref (a 16), .ref (a 17), .ref (a 18)])), (a 40, .inr (0, [.int 0, .int 0, .int 0, .int 0, .int 0, .int 0, .int 0, .int 0, .ref (a 41), .ref (a 42), .ref (a 43), .ref (a 44), .ref (a 45), .ref (a 46), .ref (a 47), .ref (a 48), .ref (a 49), .ref (a 50), .ref (a 54)]))]) (QI (-2)) 0 0 NoF := by
  refine Met.ofW (cc := cX11_lists) (maxL := 3) (ret := (some .int)) (by decide) rfl ?_
  intro p e s m args below meth c s₁ B hml hv
  obtain ⟨rfl, hP, hK, hN⟩ := hv
  have hx := B.exec
  have hb := B.bytes
  have hr := B.returns
  have hts : ∀ w ∈ TB, w.before _ s = true := fun w h => atoms_spec (ws := wd yX11_lists cX11_lists 3 (some .int)) B.pre w (List.mem_cons_of_mem _ h)
  have hown : s.vm.findClass RX11 = some m.cls := findClass_of_methodNamed B.named
  have hlocks := B.notSynchronized
  have hF : CallFix p m c cX11_lists 3 s _ TB RX11 := ⟨hx, hb, hml, hown, hts⟩
  have hl := lv_entry ([.ref (a 0), .int x, .int y]) (n := 3) (Nat.le_of_ble_eq_true rfl)
  rw [lg_entry_eq]
  generalize (lg_sl ([.ref (a 0), .int x, .int y]) ++ List.replicate (3 - (lg_sl ([.ref (a 0), .int x, .int y])).length) Slot.unset).toArray = ls at hl ⊢
  have hl : lv_has ls 3 [(0, .ref (a 0)), (1, .int x), (2, .int y)] := hl
  have hS : va_S NoF s.heap s.heap [] := va_S.rf
  have hP : va_P D classes [(a 0, .inr (11, [.ref (a 1), .ref (a 20), .ref (a 3), .ref (a 40), .ref (a 4), .int 0, .ref (a 5), .ref (a 14), .ref (a 15), .ref (a 16), .ref (a 17), .ref (a 18)])), (a 40, .inr (0, [.int 0, .int 0, .int 0, .int 0, .int 0, .int 0, .int 0, .int 0, .ref (a 41), .ref (a 42), .ref (a 43), .ref (a 44), .ref (a 45), .ref (a 46), .ref (a 47), .ref (a 48), .ref (a 49), .ref (a 50), .ref (a 54)]))] s.heap := hP
  refine lv_aload_n hx hb dX11_lists_0 rfl (lv_at hl 0 rfl) ?_
  refine va_get (D := D) (ci := 11) (v := .ref (a 40)) (C := RX11) (T := TX11) (N := 12) hx hb hts iX11 hown hK hP 0 rfl rfl 3 (by decide) (hts _ m_436) (fun _ h9 => h9) rfl dX11_lists_1 ?_
  refine x_pV hF (c_X0_isNone l D t a) m_892 m_893 m_894 m_3 m_895 hd_X0_isNone ⟨Nat.le_of_ble_eq_true rfl, Nat.le_of_ble_eq_true rfl⟩ hK hN hP hS [1] rfl 0 (ci := 0) rfl rfl rfl hl.1 rfl (Nat.le_of_ble_eq_true rfl) dX11_lists_4 ⟨Nat.zero_le _, Nat.zero_le _⟩ (fun H locs hP hS => ?_)
  refine lv_if_ne (tgt := 27) hx hb dX11_lists_7 (by decide) (fun _ => ?_) (fun c9 => absurd c9 (by decide))
  refine lv_bipush (v := (-2)) hx hb dX11_lists_27 (by decide) ?_
  exact W.iret (v := (-2)) hx hb hr (fun t9 ht hW => ⟨⟨(-2), (), rfl, rfl, trivial⟩, hS.F ht⟩) hS.2.2 dX11_lists_29

set_option maxHeartbeats 4000000 in
set_option maxRecDepth 100000 in
theorem c_X11_rigged (l : Launch) (D : va_G) (t : Nat → ClassId) (a : Nat → Nat) (x : Int32) : Met l yX11_rigged (wd yX11_rigged cX11_rigged 2 (some .int)) (RM 2 0 0) (PreP D (TY t) [.ref (a 0), .int x] [(a 0, .inr (11, [.ref (a 1), .ref (a 20), .ref (a 3), .ref (a 40), .ref (a 4), .int 0, .ref (a 5), .ref (a 14), .ref (a 15), .ref (a 16), .ref (a 17), .ref (a 18)])), (a 40, .inr (0, [.int 0, .int 0, .int 0, .int 0, .int 0, .int 0, .int 0, .int 0, .ref (a 41), .ref (a 42), .ref (a 43), .ref (a 44), .ref (a 45), .ref (a 46), .ref (a 47), .ref (a 48), .ref (a 49), .ref (a 50), .ref (a 54)]))]) (QI (-2)) 0 0 NoF := by
  refine Met.ofW (cc := cX11_rigged) (maxL := 2) (ret := (some .int)) (by decide) rfl ?_
  intro p e s m args below meth c s₁ B hml hv
  obtain ⟨rfl, hP, hK, hN⟩ := hv
  have hx := B.exec
  have hb := B.bytes
  have hr := B.returns
  have hts : ∀ w ∈ TB, w.before _ s = true := fun w h => atoms_spec (ws := wd yX11_rigged cX11_rigged 2 (some .int)) B.pre w (List.mem_cons_of_mem _ h)
  have hown : s.vm.findClass RX11 = some m.cls := findClass_of_methodNamed B.named
  have hlocks := B.notSynchronized
  have hF : CallFix p m c cX11_rigged 2 s _ TB RX11 := ⟨hx, hb, hml, hown, hts⟩
  have hl := lv_entry ([.ref (a 0), .int x]) (n := 2) (Nat.le_of_ble_eq_true rfl)
  rw [lg_entry_eq]
  generalize (lg_sl ([.ref (a 0), .int x]) ++ List.replicate (2 - (lg_sl ([.ref (a 0), .int x])).length) Slot.unset).toArray = ls at hl ⊢
  have hl : lv_has ls 2 [(0, .ref (a 0)), (1, .int x)] := hl
  have hS : va_S NoF s.heap s.heap [] := va_S.rf
  have hP : va_P D classes [(a 0, .inr (11, [.ref (a 1), .ref (a 20), .ref (a 3), .ref (a 40), .ref (a 4), .int 0, .ref (a 5), .ref (a 14), .ref (a 15), .ref (a 16), .ref (a 17), .ref (a 18)])), (a 40, .inr (0, [.int 0, .int 0, .int 0, .int 0, .int 0, .int 0, .int 0, .int 0, .ref (a 41), .ref (a 42), .ref (a 43), .ref (a 44), .ref (a 45), .ref (a 46), .ref (a 47), .ref (a 48), .ref (a 49), .ref (a 50), .ref (a 54)]))] s.heap := hP
  refine lv_iload_n hx hb dX11_rigged_0 rfl (lv_at hl 1 rfl) ?_
  refine x_pS hF (c_X11_isParty l D t x) m_1115 m_1116 m_1 m_1117 hd_X11_isParty ⟨Nat.le_of_ble_eq_true rfl, Nat.le_of_ble_eq_true rfl⟩ hK hN hP hS [] rfl hl.1 rfl (Nat.le_of_ble_eq_true rfl) dX11_rigged_1 ⟨Nat.zero_le _, Nat.zero_le _⟩ (fun H locs hP hS => ?_)
  refine lv_if_eq (tgt := 17) hx hb dX11_rigged_4 (by decide) (fun c_1 => ?_) (fun c_1 => ?_)
  · refine lv_bipush (v := (-2)) hx hb dX11_rigged_17 (by decide) ?_
    exact W.iret (v := (-2)) hx hb hr (fun t9 ht hW => ⟨⟨(-2), (), rfl, rfl, trivial⟩, hS.F ht⟩) hS.2.2 dX11_rigged_19
  · refine lv_aload_n hx hb dX11_rigged_7 rfl (lv_at hl 0 rfl) ?_
    refine va_get (D := D) (ci := 11) (v := .ref (a 40)) (C := RX11) (T := TX11) (N := 12) hx hb hts iX11 hown hK hP 0 rfl rfl 3 (by decide) (hts _ m_436) (fun _ h9 => h9) rfl dX11_rigged_8 ?_
    refine va_getN (D := D) (ci := 0) (v := .int 0) (C := RX0) (T := TX0) (N := 19) (host := "WordSeats") hx hb hts iX0 hown hK hP 1 rfl rfl 5 (by decide) (va_Nw.use rfl (hN _ n_139)) (fun _ h9 => h9) rfl dX11_rigged_11 ?_
    refine lv_if_ne (tgt := 20) hx hb dX11_rigged_14 (by decide) (fun c9 => absurd c9 (by decide)) (fun _ => ?_)
    refine lv_bipush (v := (-2)) hx hb dX11_rigged_17 (by decide) ?_
    exact W.iret (v := (-2)) hx hb hr (fun t9 ht hW => ⟨⟨(-2), (), rfl, rfl, trivial⟩, hS.F ht⟩) hS.2.2 dX11_rigged_19

set_option maxHeartbeats 4000000 in
set_option maxRecDepth 100000 in
theorem c_X11_put (l : Launch) (D : va_G) (t : Nat → ClassId) (a : Nat → Nat) (x : Int32) (y : Int32) : Met l yX11_put (wd yX11_put cX11_put 3 (some .int)) (RM 2 0 0) (PreP D (TY t) [.ref (a 0), .int x, .int y] [(a 0, .inr (11, [.ref (a 1), .ref (a 20), .ref (a 3), .ref (a 40), .ref (a 4), .int 0, .ref (a 5), .ref (a 14), .ref (a 15), .ref (a 16), .ref (a 17), .ref (a 18)])), (a 40, .inr (0, [.int 0, .int 0, .int 0, .int 0, .int 0, .int 0, .int 0, .int 0, .ref (a 41), .ref (a 42), .ref (a 43), .ref (a 44), .ref (a 45), .ref (a 46), .ref (a 47), .ref (a 48), .ref (a 49), .ref (a 50), .ref (a 54)]))]) (QI (-2)) 0 0 NoF := by
  refine Met.ofW (cc := cX11_put) (maxL := 3) (ret := (some .int)) (by decide) rfl ?_
  intro p e s m args below meth c s₁ B hml hv
  obtain ⟨rfl, hP, hK, hN⟩ := hv
  have hx := B.exec
  have hb := B.bytes
  have hr := B.returns
  have hts : ∀ w ∈ TB, w.before _ s = true := fun w h => atoms_spec (ws := wd yX11_put cX11_put 3 (some .int)) B.pre w (List.mem_cons_of_mem _ h)
  have hown : s.vm.findClass RX11 = some m.cls := findClass_of_methodNamed B.named
  have hlocks := B.notSynchronized
  have hF : CallFix p m c cX11_put 3 s _ TB RX11 := ⟨hx, hb, hml, hown, hts⟩
  have hl := lv_entry ([.ref (a 0), .int x, .int y]) (n := 3) (Nat.le_of_ble_eq_true rfl)
  rw [lg_entry_eq]
  generalize (lg_sl ([.ref (a 0), .int x, .int y]) ++ List.replicate (3 - (lg_sl ([.ref (a 0), .int x, .int y])).length) Slot.unset).toArray = ls at hl ⊢
  have hl : lv_has ls 3 [(0, .ref (a 0)), (1, .int x), (2, .int y)] := hl
  have hS : va_S NoF s.heap s.heap [] := va_S.rf
  have hP : va_P D classes [(a 0, .inr (11, [.ref (a 1), .ref (a 20), .ref (a 3), .ref (a 40), .ref (a 4), .int 0, .ref (a 5), .ref (a 14), .ref (a 15), .ref (a 16), .ref (a 17), .ref (a 18)])), (a 40, .inr (0, [.int 0, .int 0, .int 0, .int 0, .int 0, .int 0, .int 0, .int 0, .ref (a 41), .ref (a 42), .ref (a 43), .ref (a 44), .ref (a 45), .ref (a 46), .ref (a 47), .ref (a 48), .ref (a 49), .ref (a 50), .ref (a 54)]))] s.heap := hP
  refine lv_iload_n hx hb dX11_put_0 rfl (lv_at hl 1 rfl) ?_
  refine x_pS hF (c_X11_isParty l D t x) m_1115 m_1116 m_1 m_1117 hd_X11_isParty ⟨Nat.le_of_ble_eq_true rfl, Nat.le_of_ble_eq_true rfl⟩ hK hN hP hS [] rfl hl.1 rfl (Nat.le_of_ble_eq_true rfl) dX11_put_1 ⟨Nat.zero_le _, Nat.zero_le _⟩ (fun H locs hP hS => ?_)
  refine lv_if_eq (tgt := 28) hx hb dX11_put_4 (by decide) (fun c_1 => ?_) (fun c_1 => ?_)
  · refine lv_bipush (v := (-2)) hx hb dX11_put_28 (by decide) ?_
    exact W.iret (v := (-2)) hx hb hr (fun t9 ht hW => ⟨⟨(-2), (), rfl, rfl, trivial⟩, hS.F ht⟩) hS.2.2 dX11_put_30
  · refine lv_aload_n hx hb dX11_put_7 rfl (lv_at hl 0 rfl) ?_
    refine va_get (D := D) (ci := 11) (v := .ref (a 40)) (C := RX11) (T := TX11) (N := 12) hx hb hts iX11 hown hK hP 0 rfl rfl 3 (by decide) (hts _ m_436) (fun _ h9 => h9) rfl dX11_put_8 ?_
    refine lv_iload_n hx hb dX11_put_11 rfl (lv_at hl 2 rfl) ?_
    refine x_pV hF (c_X0_hasSpeaker l D t a y) m_713 m_714 m_715 m_3 m_716 hd_X0_hasSpeaker ⟨Nat.le_of_ble_eq_true rfl, Nat.le_of_ble_eq_true rfl⟩ hK hN hP hS [1] rfl 0 (ci := 0) rfl rfl rfl hl.1 rfl (Nat.le_of_ble_eq_true rfl) dX11_put_12 ⟨Nat.zero_le _, Nat.zero_le _⟩ (fun H locs hP hS => ?_)
    refine lv_if_eq (tgt := 28) hx hb dX11_put_15 (by decide) (fun _ => ?_) (fun c9 => absurd (by decide) c9)
    refine lv_bipush (v := (-2)) hx hb dX11_put_28 (by decide) ?_
    exact W.iret (v := (-2)) hx hb hr (fun t9 ht hW => ⟨⟨(-2), (), rfl, rfl, trivial⟩, hS.F ht⟩) hS.2.2 dX11_put_30

set_option maxHeartbeats 4000000 in
set_option maxRecDepth 100000 in
theorem c_X11_stand (l : Launch) (D : va_G) (t : Nat → ClassId) (a : Nat → Nat) (x : Int32) (y : Int32) : Met l yX11_stand (wd yX11_stand cX11_stand 4 (some .int)) (RM 2 0 0) (PreP D (TY t) [.ref (a 0), .int x, .int y] [(a 0, .inr (11, [.ref (a 1), .ref (a 20), .ref (a 3), .ref (a 40), .ref (a 4), .int 0, .ref (a 5), .ref (a 14), .ref (a 15), .ref (a 16), .ref (a 17), .ref (a 18)])), (a 40, .inr (0, [.int 0, .int 0, .int 0, .int 0, .int 0, .int 0, .int 0, .int 0, .ref (a 41), .ref (a 42), .ref (a 43), .ref (a 44), .ref (a 45), .ref (a 46), .ref (a 47), .ref (a 48), .ref (a 49), .ref (a 50), .ref (a 54)]))]) (QI (-2)) 0 0 NoF := by
  refine Met.ofW (cc := cX11_stand) (maxL := 4) (ret := (some .int)) (by decide) rfl ?_
  intro p e s m args below meth c s₁ B hml hv
  obtain ⟨rfl, hP, hK, hN⟩ := hv
  have hx := B.exec
  have hb := B.bytes
  have hr := B.returns
  have hts : ∀ w ∈ TB, w.before _ s = true := fun w h => atoms_spec (ws := wd yX11_stand cX11_stand 4 (some .int)) B.pre w (List.mem_cons_of_mem _ h)
  have hown : s.vm.findClass RX11 = some m.cls := findClass_of_methodNamed B.named
  have hlocks := B.notSynchronized
  have hF : CallFix p m c cX11_stand 4 s _ TB RX11 := ⟨hx, hb, hml, hown, hts⟩
  have hl := lv_entry ([.ref (a 0), .int x, .int y]) (n := 4) (Nat.le_of_ble_eq_true rfl)
  rw [lg_entry_eq]
  generalize (lg_sl ([.ref (a 0), .int x, .int y]) ++ List.replicate (4 - (lg_sl ([.ref (a 0), .int x, .int y])).length) Slot.unset).toArray = ls at hl ⊢
  have hl : lv_has ls 4 [(0, .ref (a 0)), (1, .int x), (2, .int y)] := hl
  have hS : va_S NoF s.heap s.heap [] := va_S.rf
  have hP : va_P D classes [(a 0, .inr (11, [.ref (a 1), .ref (a 20), .ref (a 3), .ref (a 40), .ref (a 4), .int 0, .ref (a 5), .ref (a 14), .ref (a 15), .ref (a 16), .ref (a 17), .ref (a 18)])), (a 40, .inr (0, [.int 0, .int 0, .int 0, .int 0, .int 0, .int 0, .int 0, .int 0, .ref (a 41), .ref (a 42), .ref (a 43), .ref (a 44), .ref (a 45), .ref (a 46), .ref (a 47), .ref (a 48), .ref (a 49), .ref (a 50), .ref (a 54)]))] s.heap := hP
  refine lv_aload_n hx hb dX11_stand_0 rfl (lv_at hl 0 rfl) ?_
  refine va_get (D := D) (ci := 11) (v := .ref (a 40)) (C := RX11) (T := TX11) (N := 12) hx hb hts iX11 hown hK hP 0 rfl rfl 3 (by decide) (hts _ m_436) (fun _ h9 => h9) rfl dX11_stand_1 ?_
  refine lv_iload_n hx hb dX11_stand_4 rfl (lv_at hl 1 rfl) ?_
  refine x_pV hF (c_X0_hasWord l D t a x) m_702 m_703 m_704 m_3 m_705 hd_X0_hasWord ⟨Nat.le_of_ble_eq_true rfl, Nat.le_of_ble_eq_true rfl⟩ hK hN hP hS [1] rfl 0 (ci := 0) rfl rfl rfl hl.1 rfl (Nat.le_of_ble_eq_true rfl) dX11_stand_5 ⟨Nat.zero_le _, Nat.zero_le _⟩ (fun H locs hP hS => ?_)
  refine lv_if_eq (tgt := 22) hx hb dX11_stand_8 (by decide) (fun _ => ?_) (fun c9 => absurd (by decide) c9)
  refine lv_bipush (v := (-2)) hx hb dX11_stand_22 (by decide) ?_
  exact W.iret (v := (-2)) hx hb hr (fun t9 ht hW => ⟨⟨(-2), (), rfl, rfl, trivial⟩, hS.F ht⟩) hS.2.2 dX11_stand_24

set_option maxHeartbeats 4000000 in
set_option maxRecDepth 100000 in
theorem c_X11_need (l : Launch) (D : va_G) (t : Nat → ClassId) (a : Nat → Nat) (x : Int32) (y : Int32) : Met l yX11_need (wd yX11_need cX11_need 4 (some .int)) (RM 2 0 0) (PreP D (TY t) [.ref (a 0), .int x, .int y] [(a 0, .inr (11, [.ref (a 1), .ref (a 20), .ref (a 3), .ref (a 40), .ref (a 4), .int 0, .ref (a 5), .ref (a 14), .ref (a 15), .ref (a 16), .ref (a 17), .ref (a 18)])), (a 40, .inr (0, [.int 0, .int 0, .int 0, .int 0, .int 0, .int 0, .int 0, .int 0, .ref (a 41), .ref (a 42), .ref (a 43), .ref (a 44), .ref (a 45), .ref (a 46), .ref (a 47), .ref (a 48), .ref (a 49), .ref (a 50), .ref (a 54)]))]) (QI (-2)) 0 0 NoF := by
  refine Met.ofW (cc := cX11_need) (maxL := 4) (ret := (some .int)) (by decide) rfl ?_
  intro p e s m args below meth c s₁ B hml hv
  obtain ⟨rfl, hP, hK, hN⟩ := hv
  have hx := B.exec
  have hb := B.bytes
  have hr := B.returns
  have hts : ∀ w ∈ TB, w.before _ s = true := fun w h => atoms_spec (ws := wd yX11_need cX11_need 4 (some .int)) B.pre w (List.mem_cons_of_mem _ h)
  have hown : s.vm.findClass RX11 = some m.cls := findClass_of_methodNamed B.named
  have hlocks := B.notSynchronized
  have hF : CallFix p m c cX11_need 4 s _ TB RX11 := ⟨hx, hb, hml, hown, hts⟩
  have hl := lv_entry ([.ref (a 0), .int x, .int y]) (n := 4) (Nat.le_of_ble_eq_true rfl)
  rw [lg_entry_eq]
  generalize (lg_sl ([.ref (a 0), .int x, .int y]) ++ List.replicate (4 - (lg_sl ([.ref (a 0), .int x, .int y])).length) Slot.unset).toArray = ls at hl ⊢
  have hl : lv_has ls 4 [(0, .ref (a 0)), (1, .int x), (2, .int y)] := hl
  have hS : va_S NoF s.heap s.heap [] := va_S.rf
  have hP : va_P D classes [(a 0, .inr (11, [.ref (a 1), .ref (a 20), .ref (a 3), .ref (a 40), .ref (a 4), .int 0, .ref (a 5), .ref (a 14), .ref (a 15), .ref (a 16), .ref (a 17), .ref (a 18)])), (a 40, .inr (0, [.int 0, .int 0, .int 0, .int 0, .int 0, .int 0, .int 0, .int 0, .ref (a 41), .ref (a 42), .ref (a 43), .ref (a 44), .ref (a 45), .ref (a 46), .ref (a 47), .ref (a 48), .ref (a 49), .ref (a 50), .ref (a 54)]))] s.heap := hP
  refine lv_aload_n hx hb dX11_need_0 rfl (lv_at hl 0 rfl) ?_
  refine va_get (D := D) (ci := 11) (v := .ref (a 40)) (C := RX11) (T := TX11) (N := 12) hx hb hts iX11 hown hK hP 0 rfl rfl 3 (by decide) (hts _ m_436) (fun _ h9 => h9) rfl dX11_need_1 ?_
  refine lv_iload_n hx hb dX11_need_4 rfl (lv_at hl 1 rfl) ?_
  refine x_pV hF (c_X0_hasSpeaker l D t a x) m_713 m_714 m_715 m_3 m_716 hd_X0_hasSpeaker ⟨Nat.le_of_ble_eq_true rfl, Nat.le_of_ble_eq_true rfl⟩ hK hN hP hS [1] rfl 0 (ci := 0) rfl rfl rfl hl.1 rfl (Nat.le_of_ble_eq_true rfl) dX11_need_5 ⟨Nat.zero_le _, Nat.zero_le _⟩ (fun H locs hP hS => ?_)
  refine lv_if_eq (tgt := 30) hx hb dX11_need_8 (by decide) (fun _ => ?_) (fun c9 => absurd (by decide) c9)
  refine lv_bipush (v := (-2)) hx hb dX11_need_30 (by decide) ?_
  exact W.iret (v := (-2)) hx hb hr (fun t9 ht hW => ⟨⟨(-2), (), rfl, rfl, trivial⟩, hS.F ht⟩) hS.2.2 dX11_need_32

set_option maxHeartbeats 4000000 in
set_option maxRecDepth 100000 in
theorem c_X11_bill (l : Launch) (D : va_G) (t : Nat → ClassId) (a : Nat → Nat) (x : Int32) (y : Int32) : Met l yX11_bill (wd yX11_bill cX11_bill 4 (some .int)) (RM 2 0 0) (PreP D (TY t) [.ref (a 0), .int x, .int y] [(a 0, .inr (11, [.ref (a 1), .ref (a 20), .ref (a 3), .ref (a 40), .ref (a 4), .int 0, .ref (a 5), .ref (a 14), .ref (a 15), .ref (a 16), .ref (a 17), .ref (a 18)])), (a 40, .inr (0, [.int 0, .int 0, .int 0, .int 0, .int 0, .int 0, .int 0, .int 0, .ref (a 41), .ref (a 42), .ref (a 43), .ref (a 44), .ref (a 45), .ref (a 46), .ref (a 47), .ref (a 48), .ref (a 49), .ref (a 50), .ref (a 54)]))]) (QI (-2)) 0 0 NoF := by
  refine Met.ofW (cc := cX11_bill) (maxL := 4) (ret := (some .int)) (by decide) rfl ?_
  intro p e s m args below meth c s₁ B hml hv
  obtain ⟨rfl, hP, hK, hN⟩ := hv
  have hx := B.exec
  have hb := B.bytes
  have hr := B.returns
  have hts : ∀ w ∈ TB, w.before _ s = true := fun w h => atoms_spec (ws := wd yX11_bill cX11_bill 4 (some .int)) B.pre w (List.mem_cons_of_mem _ h)
  have hown : s.vm.findClass RX11 = some m.cls := findClass_of_methodNamed B.named
  have hlocks := B.notSynchronized
  have hF : CallFix p m c cX11_bill 4 s _ TB RX11 := ⟨hx, hb, hml, hown, hts⟩
  have hl := lv_entry ([.ref (a 0), .int x, .int y]) (n := 4) (Nat.le_of_ble_eq_true rfl)
  rw [lg_entry_eq]
  generalize (lg_sl ([.ref (a 0), .int x, .int y]) ++ List.replicate (4 - (lg_sl ([.ref (a 0), .int x, .int y])).length) Slot.unset).toArray = ls at hl ⊢
  have hl : lv_has ls 4 [(0, .ref (a 0)), (1, .int x), (2, .int y)] := hl
  have hS : va_S NoF s.heap s.heap [] := va_S.rf
  have hP : va_P D classes [(a 0, .inr (11, [.ref (a 1), .ref (a 20), .ref (a 3), .ref (a 40), .ref (a 4), .int 0, .ref (a 5), .ref (a 14), .ref (a 15), .ref (a 16), .ref (a 17), .ref (a 18)])), (a 40, .inr (0, [.int 0, .int 0, .int 0, .int 0, .int 0, .int 0, .int 0, .int 0, .ref (a 41), .ref (a 42), .ref (a 43), .ref (a 44), .ref (a 45), .ref (a 46), .ref (a 47), .ref (a 48), .ref (a 49), .ref (a 50), .ref (a 54)]))] s.heap := hP
  refine lv_aload_n hx hb dX11_bill_0 rfl (lv_at hl 0 rfl) ?_
  refine va_get (D := D) (ci := 11) (v := .ref (a 40)) (C := RX11) (T := TX11) (N := 12) hx hb hts iX11 hown hK hP 0 rfl rfl 3 (by decide) (hts _ m_436) (fun _ h9 => h9) rfl dX11_bill_1 ?_
  refine x_pV hF (c_X0_isNone l D t a) m_892 m_893 m_894 m_3 m_895 hd_X0_isNone ⟨Nat.le_of_ble_eq_true rfl, Nat.le_of_ble_eq_true rfl⟩ hK hN hP hS [1] rfl 0 (ci := 0) rfl rfl rfl hl.1 rfl (Nat.le_of_ble_eq_true rfl) dX11_bill_4 ⟨Nat.zero_le _, Nat.zero_le _⟩ (fun H locs hP hS => ?_)
  refine lv_if_eq (tgt := 13) hx hb dX11_bill_7 (by decide) (fun c9 => absurd c9 (by decide)) (fun _ => ?_)
  refine lv_bipush (v := (-2)) hx hb dX11_bill_10 (by decide) ?_
  exact W.iret (v := (-2)) hx hb hr (fun t9 ht hW => ⟨⟨(-2), (), rfl, rfl, trivial⟩, hS.F ht⟩) hS.2.2 dX11_bill_12

set_option maxHeartbeats 4000000 in
set_option maxRecDepth 100000 in
theorem c_X11_drawn (l : Launch) (D : va_G) (t : Nat → ClassId) (a : Nat → Nat) (x : Int32) (y : Int32) : Met l yX11_drawn (wd yX11_drawn cX11_drawn 3 (some .int)) (RM 2 0 0) (PreP D (TY t) [.ref (a 0), .int x, .int y] [(a 0, .inr (11, [.ref (a 1), .ref (a 20), .ref (a 3), .ref (a 40), .ref (a 4), .int 0, .ref (a 5), .ref (a 14), .ref (a 15), .ref (a 16), .ref (a 17), .ref (a 18)])), (a 40, .inr (0, [.int 0, .int 0, .int 0, .int 0, .int 0, .int 0, .int 0, .int 0, .ref (a 41), .ref (a 42), .ref (a 43), .ref (a 44), .ref (a 45), .ref (a 46), .ref (a 47), .ref (a 48), .ref (a 49), .ref (a 50), .ref (a 54)]))]) (QI (-2)) 0 0 NoF := by
  refine Met.ofW (cc := cX11_drawn) (maxL := 3) (ret := (some .int)) (by decide) rfl ?_
  intro p e s m args below meth c s₁ B hml hv
  obtain ⟨rfl, hP, hK, hN⟩ := hv
  have hx := B.exec
  have hb := B.bytes
  have hr := B.returns
  have hts : ∀ w ∈ TB, w.before _ s = true := fun w h => atoms_spec (ws := wd yX11_drawn cX11_drawn 3 (some .int)) B.pre w (List.mem_cons_of_mem _ h)
  have hown : s.vm.findClass RX11 = some m.cls := findClass_of_methodNamed B.named
  have hlocks := B.notSynchronized
  have hF : CallFix p m c cX11_drawn 3 s _ TB RX11 := ⟨hx, hb, hml, hown, hts⟩
  have hl := lv_entry ([.ref (a 0), .int x, .int y]) (n := 3) (Nat.le_of_ble_eq_true rfl)
  rw [lg_entry_eq]
  generalize (lg_sl ([.ref (a 0), .int x, .int y]) ++ List.replicate (3 - (lg_sl ([.ref (a 0), .int x, .int y])).length) Slot.unset).toArray = ls at hl ⊢
  have hl : lv_has ls 3 [(0, .ref (a 0)), (1, .int x), (2, .int y)] := hl
  have hS : va_S NoF s.heap s.heap [] := va_S.rf
  have hP : va_P D classes [(a 0, .inr (11, [.ref (a 1), .ref (a 20), .ref (a 3), .ref (a 40), .ref (a 4), .int 0, .ref (a 5), .ref (a 14), .ref (a 15), .ref (a 16), .ref (a 17), .ref (a 18)])), (a 40, .inr (0, [.int 0, .int 0, .int 0, .int 0, .int 0, .int 0, .int 0, .int 0, .ref (a 41), .ref (a 42), .ref (a 43), .ref (a 44), .ref (a 45), .ref (a 46), .ref (a 47), .ref (a 48), .ref (a 49), .ref (a 50), .ref (a 54)]))] s.heap := hP
  refine lv_iload_n hx hb dX11_drawn_0 rfl (lv_at hl 1 rfl) ?_
  refine x_pS hF (c_X11_isSeed l D t x) m_1269 m_1270 m_1 m_1271 hd_X11_isSeed ⟨Nat.le_of_ble_eq_true rfl, Nat.le_of_ble_eq_true rfl⟩ hK hN hP hS [] rfl hl.1 rfl (Nat.le_of_ble_eq_true rfl) dX11_drawn_1 ⟨Nat.zero_le _, Nat.zero_le _⟩ (fun H locs hP hS => ?_)
  refine lv_if_eq (tgt := 18) hx hb dX11_drawn_4 (by decide) (fun c_1 => ?_) (fun c_1 => ?_)
  · refine lv_bipush (v := (-2)) hx hb dX11_drawn_18 (by decide) ?_
    exact W.iret (v := (-2)) hx hb hr (fun t9 ht hW => ⟨⟨(-2), (), rfl, rfl, trivial⟩, hS.F ht⟩) hS.2.2 dX11_drawn_20
  · refine lv_aload_n hx hb dX11_drawn_7 rfl (lv_at hl 0 rfl) ?_
    refine va_get (D := D) (ci := 11) (v := .ref (a 40)) (C := RX11) (T := TX11) (N := 12) hx hb hts iX11 hown hK hP 0 rfl rfl 3 (by decide) (hts _ m_436) (fun _ h9 => h9) rfl dX11_drawn_8 ?_
    refine lv_iload_n hx hb dX11_drawn_11 rfl (lv_at hl 2 rfl) ?_
    refine x_pV hF (c_X0_hasDistrict l D t a y) m_721 m_722 m_723 m_3 m_724 hd_X0_hasDistrict ⟨Nat.le_of_ble_eq_true rfl, Nat.le_of_ble_eq_true rfl⟩ hK hN hP hS [1] rfl 0 (ci := 0) rfl rfl rfl hl.1 rfl (Nat.le_of_ble_eq_true rfl) dX11_drawn_12 ⟨Nat.zero_le _, Nat.zero_le _⟩ (fun H locs hP hS => ?_)
    refine lv_if_ne (tgt := 21) hx hb dX11_drawn_15 (by decide) (fun c9 => absurd c9 (by decide)) (fun _ => ?_)
    refine lv_bipush (v := (-2)) hx hb dX11_drawn_18 (by decide) ?_
    exact W.iret (v := (-2)) hx hb hr (fun t9 ht hW => ⟨⟨(-2), (), rfl, rfl, trivial⟩, hS.F ht⟩) hS.2.2 dX11_drawn_20

set_option maxHeartbeats 4000000 in
set_option maxRecDepth 100000 in
theorem c_X11_years (l : Launch) (D : va_G) (t : Nat → ClassId) (a : Nat → Nat) (x : Int32) (y : Int32) (z : Int32) : Met l yX11_years (wd yX11_years cX11_years 6 (some .int)) (RM 2 0 0) (PreP D (TY t) [.ref (a 0), .int x, .int y, .int z] [(a 0, .inr (11, [.ref (a 1), .ref (a 20), .ref (a 3), .ref (a 40), .ref (a 4), .int 0, .ref (a 5), .ref (a 14), .ref (a 15), .ref (a 16), .ref (a 17), .ref (a 18)])), (a 40, .inr (0, [.int 0, .int 0, .int 0, .int 0, .int 0, .int 0, .int 0, .int 0, .ref (a 41), .ref (a 42), .ref (a 43), .ref (a 44), .ref (a 45), .ref (a 46), .ref (a 47), .ref (a 48), .ref (a 49), .ref (a 50), .ref (a 54)]))]) (QI (-2)) 0 0 NoF := by
  refine Met.ofW (cc := cX11_years) (maxL := 6) (ret := (some .int)) (by decide) rfl ?_
  intro p e s m args below meth c s₁ B hml hv
  obtain ⟨rfl, hP, hK, hN⟩ := hv
  have hx := B.exec
  have hb := B.bytes
  have hr := B.returns
  have hts : ∀ w ∈ TB, w.before _ s = true := fun w h => atoms_spec (ws := wd yX11_years cX11_years 6 (some .int)) B.pre w (List.mem_cons_of_mem _ h)
  have hown : s.vm.findClass RX11 = some m.cls := findClass_of_methodNamed B.named
  have hlocks := B.notSynchronized
  have hF : CallFix p m c cX11_years 6 s _ TB RX11 := ⟨hx, hb, hml, hown, hts⟩
  have hl := lv_entry ([.ref (a 0), .int x, .int y, .int z]) (n := 6) (Nat.le_of_ble_eq_true rfl)
  rw [lg_entry_eq]
  generalize (lg_sl ([.ref (a 0), .int x, .int y, .int z]) ++ List.replicate (6 - (lg_sl ([.ref (a 0), .int x, .int y, .int z])).length) Slot.unset).toArray = ls at hl ⊢
  have hl : lv_has ls 6 [(0, .ref (a 0)), (1, .int x), (2, .int y), (3, .int z)] := hl
  have hS : va_S NoF s.heap s.heap [] := va_S.rf
  have hP : va_P D classes [(a 0, .inr (11, [.ref (a 1), .ref (a 20), .ref (a 3), .ref (a 40), .ref (a 4), .int 0, .ref (a 5), .ref (a 14), .ref (a 15), .ref (a 16), .ref (a 17), .ref (a 18)])), (a 40, .inr (0, [.int 0, .int 0, .int 0, .int 0, .int 0, .int 0, .int 0, .int 0, .ref (a 41), .ref (a 42), .ref (a 43), .ref (a 44), .ref (a 45), .ref (a 46), .ref (a 47), .ref (a 48), .ref (a 49), .ref (a 50), .ref (a 54)]))] s.heap := hP
  refine lv_iload_n hx hb dX11_years_0 rfl (lv_at hl 1 rfl) ?_
  refine x_pS hF (c_X11_isSeed l D t x) m_1269 m_1270 m_1 m_1271 hd_X11_isSeed ⟨Nat.le_of_ble_eq_true rfl, Nat.le_of_ble_eq_true rfl⟩ hK hN hP hS [] rfl hl.1 rfl (Nat.le_of_ble_eq_true rfl) dX11_years_1 ⟨Nat.zero_le _, Nat.zero_le _⟩ (fun H locs hP hS => ?_)
  refine lv_if_eq (tgt := 29) hx hb dX11_years_4 (by decide) (fun c_1 => ?_) (fun c_1 => ?_)
  · refine lv_bipush (v := (-2)) hx hb dX11_years_29 (by decide) ?_
    exact W.iret (v := (-2)) hx hb hr (fun t9 ht hW => ⟨⟨(-2), (), rfl, rfl, trivial⟩, hS.F ht⟩) hS.2.2 dX11_years_31
  · refine lv_iload_n hx hb dX11_years_7 rfl (lv_at hl 2 rfl) ?_
    refine lv_iconst (v := 1) hx hb dX11_years_8 (by decide) ?_
    refine lv_icmp_lt (tgt := 29) hx hb dX11_years_9 (by decide) (fun c_2 => ?_) (fun c_2 => ?_)
    · refine lv_bipush (v := (-2)) hx hb dX11_years_29 (by decide) ?_
      exact W.iret (v := (-2)) hx hb hr (fun t9 ht hW => ⟨⟨(-2), (), rfl, rfl, trivial⟩, hS.F ht⟩) hS.2.2 dX11_years_31
    · refine lv_iload_n hx hb dX11_years_12 rfl (lv_at hl 2 rfl) ?_
      refine lv_bipush (v := 20) hx hb dX11_years_13 (by decide) ?_
      refine lv_icmp_gt (tgt := 29) hx hb dX11_years_15 (by decide) (fun c_3 => ?_) (fun c_3 => ?_)
      · refine lv_bipush (v := (-2)) hx hb dX11_years_29 (by decide) ?_
        exact W.iret (v := (-2)) hx hb hr (fun t9 ht hW => ⟨⟨(-2), (), rfl, rfl, trivial⟩, hS.F ht⟩) hS.2.2 dX11_years_31
      · refine lv_aload_n hx hb dX11_years_18 rfl (lv_at hl 0 rfl) ?_
        refine va_get (D := D) (ci := 11) (v := .ref (a 40)) (C := RX11) (T := TX11) (N := 12) hx hb hts iX11 hown hK hP 0 rfl rfl 3 (by decide) (hts _ m_436) (fun _ h9 => h9) rfl dX11_years_19 ?_
        refine lv_iload_n hx hb dX11_years_22 rfl (lv_at hl 3 rfl) ?_
        refine x_pV hF (c_X0_hasWord l D t a z) m_702 m_703 m_704 m_3 m_705 hd_X0_hasWord ⟨Nat.le_of_ble_eq_true rfl, Nat.le_of_ble_eq_true rfl⟩ hK hN hP hS [1] rfl 0 (ci := 0) rfl rfl rfl hl.1 rfl (Nat.le_of_ble_eq_true rfl) dX11_years_23 ⟨Nat.zero_le _, Nat.zero_le _⟩ (fun H locs hP hS => ?_)
        refine lv_if_ne (tgt := 32) hx hb dX11_years_26 (by decide) (fun c9 => absurd c9 (by decide)) (fun _ => ?_)
        refine lv_bipush (v := (-2)) hx hb dX11_years_29 (by decide) ?_
        exact W.iret (v := (-2)) hx hb hr (fun t9 ht hW => ⟨⟨(-2), (), rfl, rfl, trivial⟩, hS.F ht⟩) hS.2.2 dX11_years_31

set_option maxHeartbeats 4000000 in
set_option maxRecDepth 100000 in
theorem c_X11_refusesSpeech (l : Launch) (D : va_G) (t : Nat → ClassId) (a : Nat → Nat) (x : Int32) : Met l yX11_refusesSpeech (wd yX11_refusesSpeech cX11_refusesSpeech 2 (some .int)) (RM 2 0 0) (PreP D (TY t) [.ref (a 0), .int x] [(a 0, .inr (11, [.ref (a 1), .ref (a 20), .ref (a 3), .ref (a 40), .ref (a 4), .int 0, .ref (a 5), .ref (a 14), .ref (a 15), .ref (a 16), .ref (a 17), .ref (a 18)])), (a 40, .inr (0, [.int 0, .int 0, .int 0, .int 0, .int 0, .int 0, .int 0, .int 0, .ref (a 41), .ref (a 42), .ref (a 43), .ref (a 44), .ref (a 45), .ref (a 46), .ref (a 47), .ref (a 48), .ref (a 49), .ref (a 50), .ref (a 54)]))]) (QI (-2)) 0 0 NoF := by
  refine Met.ofW (cc := cX11_refusesSpeech) (maxL := 2) (ret := (some .int)) (by decide) rfl ?_
  intro p e s m args below meth c s₁ B hml hv
  obtain ⟨rfl, hP, hK, hN⟩ := hv
  have hx := B.exec
  have hb := B.bytes
  have hr := B.returns
  have hts : ∀ w ∈ TB, w.before _ s = true := fun w h => atoms_spec (ws := wd yX11_refusesSpeech cX11_refusesSpeech 2 (some .int)) B.pre w (List.mem_cons_of_mem _ h)
  have hown : s.vm.findClass RX11 = some m.cls := findClass_of_methodNamed B.named
  have hlocks := B.notSynchronized
  have hF : CallFix p m c cX11_refusesSpeech 2 s _ TB RX11 := ⟨hx, hb, hml, hown, hts⟩
  have hl := lv_entry ([.ref (a 0), .int x]) (n := 2) (Nat.le_of_ble_eq_true rfl)
  rw [lg_entry_eq]
  generalize (lg_sl ([.ref (a 0), .int x]) ++ List.replicate (2 - (lg_sl ([.ref (a 0), .int x])).length) Slot.unset).toArray = ls at hl ⊢
  have hl : lv_has ls 2 [(0, .ref (a 0)), (1, .int x)] := hl
  have hS : va_S NoF s.heap s.heap [] := va_S.rf
  have hP : va_P D classes [(a 0, .inr (11, [.ref (a 1), .ref (a 20), .ref (a 3), .ref (a 40), .ref (a 4), .int 0, .ref (a 5), .ref (a 14), .ref (a 15), .ref (a 16), .ref (a 17), .ref (a 18)])), (a 40, .inr (0, [.int 0, .int 0, .int 0, .int 0, .int 0, .int 0, .int 0, .int 0, .ref (a 41), .ref (a 42), .ref (a 43), .ref (a 44), .ref (a 45), .ref (a 46), .ref (a 47), .ref (a 48), .ref (a 49), .ref (a 50), .ref (a 54)]))] s.heap := hP
  refine lv_iload_n hx hb dX11_refusesSpeech_0 rfl (lv_at hl 1 rfl) ?_
  refine x_pS hF (c_X11_isSlot l D t x) m_1220 m_1221 m_1 m_1222 hd_X11_isSlot ⟨Nat.le_of_ble_eq_true rfl, Nat.le_of_ble_eq_true rfl⟩ hK hN hP hS [] rfl hl.1 rfl (Nat.le_of_ble_eq_true rfl) dX11_refusesSpeech_1 ⟨Nat.zero_le _, Nat.zero_le _⟩ (fun H locs hP hS => ?_)
  refine lv_if_eq (tgt := 17) hx hb dX11_refusesSpeech_4 (by decide) (fun c_1 => ?_) (fun c_1 => ?_)
  · refine lv_bipush (v := (-2)) hx hb dX11_refusesSpeech_17 (by decide) ?_
    exact W.iret (v := (-2)) hx hb hr (fun t9 ht hW => ⟨⟨(-2), (), rfl, rfl, trivial⟩, hS.F ht⟩) hS.2.2 dX11_refusesSpeech_19
  · refine lv_aload_n hx hb dX11_refusesSpeech_7 rfl (lv_at hl 0 rfl) ?_
    refine va_get (D := D) (ci := 11) (v := .ref (a 40)) (C := RX11) (T := TX11) (N := 12) hx hb hts iX11 hown hK hP 0 rfl rfl 3 (by decide) (hts _ m_436) (fun _ h9 => h9) rfl dX11_refusesSpeech_8 ?_
    refine x_pV hF (c_X0_isNone l D t a) m_892 m_893 m_894 m_3 m_895 hd_X0_isNone ⟨Nat.le_of_ble_eq_true rfl, Nat.le_of_ble_eq_true rfl⟩ hK hN hP hS [1] rfl 0 (ci := 0) rfl rfl rfl hl.1 rfl (Nat.le_of_ble_eq_true rfl) dX11_refusesSpeech_11 ⟨Nat.zero_le _, Nat.zero_le _⟩ (fun H locs hP hS => ?_)
    refine lv_if_eq (tgt := 20) hx hb dX11_refusesSpeech_14 (by decide) (fun c9 => absurd c9 (by decide)) (fun _ => ?_)
    refine lv_bipush (v := (-2)) hx hb dX11_refusesSpeech_17 (by decide) ?_
    exact W.iret (v := (-2)) hx hb hr (fun t9 ht hW => ⟨⟨(-2), (), rfl, rfl, trivial⟩, hS.F ht⟩) hS.2.2 dX11_refusesSpeech_19

set_option maxHeartbeats 4000000 in
set_option maxRecDepth 100000 in
theorem c_X11_speech (l : Launch) (D : va_G) (t : Nat → ClassId) (a : Nat → Nat) (x : Int32) : Met l yX11_speech (wd yX11_speech cX11_speech 3 (some .int)) (RM 3 0 0) (PreP D (TY t) [.ref (a 0), .int x] [(a 0, .inr (11, [.ref (a 1), .ref (a 20), .ref (a 3), .ref (a 40), .ref (a 4), .int 0, .ref (a 5), .ref (a 14), .ref (a 15), .ref (a 16), .ref (a 17), .ref (a 18)])), (a 40, .inr (0, [.int 0, .int 0, .int 0, .int 0, .int 0, .int 0, .int 0, .int 0, .ref (a 41), .ref (a 42), .ref (a 43), .ref (a 44), .ref (a 45), .ref (a 46), .ref (a 47), .ref (a 48), .ref (a 49), .ref (a 50), .ref (a 54)]))]) (QI (-2)) 0 0 NoF := by
  refine Met.ofW (cc := cX11_speech) (maxL := 3) (ret := (some .int)) (by decide) rfl ?_
  intro p e s m args below meth c s₁ B hml hv
  obtain ⟨rfl, hP, hK, hN⟩ := hv
  have hx := B.exec
  have hb := B.bytes
  have hr := B.returns
  have hts : ∀ w ∈ TB, w.before _ s = true := fun w h => atoms_spec (ws := wd yX11_speech cX11_speech 3 (some .int)) B.pre w (List.mem_cons_of_mem _ h)
  have hown : s.vm.findClass RX11 = some m.cls := findClass_of_methodNamed B.named
  have hlocks := B.notSynchronized
  have hF : CallFix p m c cX11_speech 3 s _ TB RX11 := ⟨hx, hb, hml, hown, hts⟩
  have hl := lv_entry ([.ref (a 0), .int x]) (n := 3) (Nat.le_of_ble_eq_true rfl)
  rw [lg_entry_eq]
  generalize (lg_sl ([.ref (a 0), .int x]) ++ List.replicate (3 - (lg_sl ([.ref (a 0), .int x])).length) Slot.unset).toArray = ls at hl ⊢
  have hl : lv_has ls 3 [(0, .ref (a 0)), (1, .int x)] := hl
  have hS : va_S NoF s.heap s.heap [] := va_S.rf
  have hP : va_P D classes [(a 0, .inr (11, [.ref (a 1), .ref (a 20), .ref (a 3), .ref (a 40), .ref (a 4), .int 0, .ref (a 5), .ref (a 14), .ref (a 15), .ref (a 16), .ref (a 17), .ref (a 18)])), (a 40, .inr (0, [.int 0, .int 0, .int 0, .int 0, .int 0, .int 0, .int 0, .int 0, .ref (a 41), .ref (a 42), .ref (a 43), .ref (a 44), .ref (a 45), .ref (a 46), .ref (a 47), .ref (a 48), .ref (a 49), .ref (a 50), .ref (a 54)]))] s.heap := hP
  refine lv_aload_n hx hb dX11_speech_0 rfl (lv_at hl 0 rfl) ?_
  refine lv_iload_n hx hb dX11_speech_1 rfl (lv_at hl 1 rfl) ?_
  refine x_pV hF (c_X11_refusesSpeech l D t a x) m_1216 m_1218 m_s33 m_1 m_1219 hd_X11_refusesSpeech ⟨Nat.le_of_ble_eq_true rfl, Nat.le_of_ble_eq_true rfl⟩ hK hN hP hS [0, 1] rfl 0 (ci := 11) rfl rfl rfl hl.1 rfl (Nat.le_of_ble_eq_true rfl) dX11_speech_2 ⟨Nat.zero_le _, Nat.zero_le _⟩ (fun H locs hP hS => ?_)
  refine lv_istore_n (lv' := [(2, .int (-2)), (0, .ref (a 0)), (1, .int x)]) hx hb dX11_speech_5 rfl hl (by decide) rfl (fun ls hl => ?_)
  refine lv_iload_n hx hb dX11_speech_6 rfl (lv_at hl 0 rfl) ?_
  refine lv_if_eq (tgt := 14) hx hb dX11_speech_7 (by decide) (fun c9 => absurd c9 (by decide)) (fun _ => ?_)
  refine lv_iload_n hx hb dX11_speech_10 rfl (lv_at hl 0 rfl) ?_
  refine lv_goto (tgt := 37) hx hb dX11_speech_11 (by decide) ?_
  exact W.iret (v := (-2)) hx hb hr (fun t9 ht hW => ⟨⟨(-2), (), rfl, rfl, trivial⟩, hS.F ht⟩) hS.2.2 dX11_speech_37

set_option maxHeartbeats 4000000 in
set_option maxRecDepth 100000 in
theorem c_X11_fits (l : Launch) (D : va_G) (t : Nat → ClassId) (a : Nat → Nat) (x : Int32) : Met l yX11_fits (wd yX11_fits cX11_fits 3 (some .int)) (RM 3 0 0) (PreP D (TY t) [.ref (a 0), .int x] [(a 0, .inr (11, [.ref (a 1), .ref (a 20), .ref (a 3), .ref (a 40), .ref (a 4), .int 0, .ref (a 5), .ref (a 14), .ref (a 15), .ref (a 16), .ref (a 17), .ref (a 18)])), (a 40, .inr (0, [.int 0, .int 0, .int 0, .int 0, .int 0, .int 0, .int 0, .int 0, .ref (a 41), .ref (a 42), .ref (a 43), .ref (a 44), .ref (a 45), .ref (a 46), .ref (a 47), .ref (a 48), .ref (a 49), .ref (a 50), .ref (a 54)]))]) (QI (-2)) 0 0 NoF := by
  refine Met.ofW (cc := cX11_fits) (maxL := 3) (ret := (some .int)) (by decide) rfl ?_
  intro p e s m args below meth c s₁ B hml hv
  obtain ⟨rfl, hP, hK, hN⟩ := hv
  have hx := B.exec
  have hb := B.bytes
  have hr := B.returns
  have hts : ∀ w ∈ TB, w.before _ s = true := fun w h => atoms_spec (ws := wd yX11_fits cX11_fits 3 (some .int)) B.pre w (List.mem_cons_of_mem _ h)
  have hown : s.vm.findClass RX11 = some m.cls := findClass_of_methodNamed B.named
  have hlocks := B.notSynchronized
  have hF : CallFix p m c cX11_fits 3 s _ TB RX11 := ⟨hx, hb, hml, hown, hts⟩
  have hl := lv_entry ([.ref (a 0), .int x]) (n := 3) (Nat.le_of_ble_eq_true rfl)
  rw [lg_entry_eq]
  generalize (lg_sl ([.ref (a 0), .int x]) ++ List.replicate (3 - (lg_sl ([.ref (a 0), .int x])).length) Slot.unset).toArray = ls at hl ⊢
  have hl : lv_has ls 3 [(0, .ref (a 0)), (1, .int x)] := hl
  have hS : va_S NoF s.heap s.heap [] := va_S.rf
  have hP : va_P D classes [(a 0, .inr (11, [.ref (a 1), .ref (a 20), .ref (a 3), .ref (a 40), .ref (a 4), .int 0, .ref (a 5), .ref (a 14), .ref (a 15), .ref (a 16), .ref (a 17), .ref (a 18)])), (a 40, .inr (0, [.int 0, .int 0, .int 0, .int 0, .int 0, .int 0, .int 0, .int 0, .ref (a 41), .ref (a 42), .ref (a 43), .ref (a 44), .ref (a 45), .ref (a 46), .ref (a 47), .ref (a 48), .ref (a 49), .ref (a 50), .ref (a 54)]))] s.heap := hP
  refine lv_aload_n hx hb dX11_fits_0 rfl (lv_at hl 0 rfl) ?_
  refine lv_iload_n hx hb dX11_fits_1 rfl (lv_at hl 1 rfl) ?_
  refine x_pV hF (c_X11_refusesSpeech l D t a x) m_1216 m_1218 m_s33 m_1 m_1219 hd_X11_refusesSpeech ⟨Nat.le_of_ble_eq_true rfl, Nat.le_of_ble_eq_true rfl⟩ hK hN hP hS [0, 1] rfl 0 (ci := 11) rfl rfl rfl hl.1 rfl (Nat.le_of_ble_eq_true rfl) dX11_fits_2 ⟨Nat.zero_le _, Nat.zero_le _⟩ (fun H locs hP hS => ?_)
  refine lv_istore_n (lv' := [(2, .int (-2)), (0, .ref (a 0)), (1, .int x)]) hx hb dX11_fits_5 rfl hl (by decide) rfl (fun ls hl => ?_)
  refine lv_iload_n hx hb dX11_fits_6 rfl (lv_at hl 0 rfl) ?_
  refine lv_if_eq (tgt := 12) hx hb dX11_fits_7 (by decide) (fun c9 => absurd c9 (by decide)) (fun _ => ?_)
  refine lv_iload_n hx hb dX11_fits_10 rfl (lv_at hl 0 rfl) ?_
  exact W.iret (v := (-2)) hx hb hr (fun t9 ht hW => ⟨⟨(-2), (), rfl, rfl, trivial⟩, hS.F ht⟩) hS.2.2 dX11_fits_11

set_option maxHeartbeats 4000000 in
set_option maxRecDepth 100000 in
theorem c_X11_sure (l : Launch) (D : va_G) (t : Nat → ClassId) (a : Nat → Nat) (x : Int32) (y : Int32) : Met l yX11_sure (wd yX11_sure cX11_sure 4 (some .int)) (RM 3 0 0) (PreP D (TY t) [.ref (a 0), .int x, .int y] [(a 0, .inr (11, [.ref (a 1), .ref (a 20), .ref (a 3), .ref (a 40), .ref (a 4), .int 0, .ref (a 5), .ref (a 14), .ref (a 15), .ref (a 16), .ref (a 17), .ref (a 18)])), (a 40, .inr (0, [.int 0, .int 0, .int 0, .int 0, .int 0, .int 0, .int 0, .int 0, .ref (a 41), .ref (a 42), .ref (a 43), .ref (a 44), .ref (a 45), .ref (a 46), .ref (a 47), .ref (a 48), .ref (a 49), .ref (a 50), .ref (a 54)]))]) (QI (-2)) 0 0 NoF := by
  refine Met.ofW (cc := cX11_sure) (maxL := 4) (ret := (some .int)) (by decide) rfl ?_
  intro p e s m args below meth c s₁ B hml hv
  obtain ⟨rfl, hP, hK, hN⟩ := hv
  have hx := B.exec
  have hb := B.bytes
  have hr := B.returns
  have hts : ∀ w ∈ TB, w.before _ s = true := fun w h => atoms_spec (ws := wd yX11_sure cX11_sure 4 (some .int)) B.pre w (List.mem_cons_of_mem _ h)
  have hown : s.vm.findClass RX11 = some m.cls := findClass_of_methodNamed B.named
  have hlocks := B.notSynchronized
  have hF : CallFix p m c cX11_sure 4 s _ TB RX11 := ⟨hx, hb, hml, hown, hts⟩
  have hl := lv_entry ([.ref (a 0), .int x, .int y]) (n := 4) (Nat.le_of_ble_eq_true rfl)
  rw [lg_entry_eq]
  generalize (lg_sl ([.ref (a 0), .int x, .int y]) ++ List.replicate (4 - (lg_sl ([.ref (a 0), .int x, .int y])).length) Slot.unset).toArray = ls at hl ⊢
  have hl : lv_has ls 4 [(0, .ref (a 0)), (1, .int x), (2, .int y)] := hl
  have hS : va_S NoF s.heap s.heap [] := va_S.rf
  have hP : va_P D classes [(a 0, .inr (11, [.ref (a 1), .ref (a 20), .ref (a 3), .ref (a 40), .ref (a 4), .int 0, .ref (a 5), .ref (a 14), .ref (a 15), .ref (a 16), .ref (a 17), .ref (a 18)])), (a 40, .inr (0, [.int 0, .int 0, .int 0, .int 0, .int 0, .int 0, .int 0, .int 0, .ref (a 41), .ref (a 42), .ref (a 43), .ref (a 44), .ref (a 45), .ref (a 46), .ref (a 47), .ref (a 48), .ref (a 49), .ref (a 50), .ref (a 54)]))] s.heap := hP
  refine lv_iload_n hx hb dX11_sure_0 rfl (lv_at hl 2 rfl) ?_
  refine lv_if_lt (tgt := 9) hx hb dX11_sure_1 (by decide) (fun c_1 => ?_) (fun c_1 => ?_)
  · refine lv_bipush (v := (-2)) hx hb dX11_sure_9 (by decide) ?_
    exact W.iret (v := (-2)) hx hb hr (fun t9 ht hW => ⟨⟨(-2), (), rfl, rfl, trivial⟩, hS.F ht⟩) hS.2.2 dX11_sure_11
  · refine lv_iload_n hx hb dX11_sure_4 rfl (lv_at hl 2 rfl) ?_
    refine lv_iconst (v := 1) hx hb dX11_sure_5 (by decide) ?_
    refine lv_icmp_le (tgt := 12) hx hb dX11_sure_6 (by decide) (fun c_2 => ?_) (fun c_2 => ?_)
    · refine lv_aload_n hx hb dX11_sure_12 rfl (lv_at hl 0 rfl) ?_
      refine lv_iload_n hx hb dX11_sure_13 rfl (lv_at hl 1 rfl) ?_
      refine x_pV hF (c_X11_refusesSpeech l D t a x) m_1216 m_1218 m_s33 m_1 m_1219 hd_X11_refusesSpeech ⟨Nat.le_of_ble_eq_true rfl, Nat.le_of_ble_eq_true rfl⟩ hK hN hP hS [0, 1] rfl 0 (ci := 11) rfl rfl rfl hl.1 rfl (Nat.le_of_ble_eq_true rfl) dX11_sure_14 ⟨Nat.zero_le _, Nat.zero_le _⟩ (fun H locs hP hS => ?_)
      refine lv_istore_n (lv' := [(3, .int (-2)), (0, .ref (a 0)), (1, .int x), (2, .int y)]) hx hb dX11_sure_17 rfl hl (by decide) rfl (fun ls hl => ?_)
      refine lv_iload_n hx hb dX11_sure_18 rfl (lv_at hl 0 rfl) ?_
      refine lv_if_eq (tgt := 24) hx hb dX11_sure_19 (by decide) (fun c9 => absurd c9 (by decide)) (fun _ => ?_)
      refine lv_iload_n hx hb dX11_sure_22 rfl (lv_at hl 0 rfl) ?_
      exact W.iret (v := (-2)) hx hb hr (fun t9 ht hW => ⟨⟨(-2), (), rfl, rfl, trivial⟩, hS.F ht⟩) hS.2.2 dX11_sure_23
    · refine lv_bipush (v := (-2)) hx hb dX11_sure_9 (by decide) ?_
      exact W.iret (v := (-2)) hx hb hr (fun t9 ht hW => ⟨⟨(-2), (), rfl, rfl, trivial⟩, hS.F ht⟩) hS.2.2 dX11_sure_11

set_option maxHeartbeats 4000000 in
set_option maxRecDepth 100000 in
theorem c_X11_fault (l : Launch) (D : va_G) (t : Nat → ClassId) (a : Nat → Nat) (x : Int32) : Met l yX11_fault (wd yX11_fault cX11_fault 2 (some .int)) (RM 0 0 0) (PreP D (TY t) [.ref (a 0), .int x] [(a 0, .inr (11, [.ref (a 1), .ref (a 20), .ref (a 3), .ref (a 40), .ref (a 4), .int 0, .ref (a 5), .ref (a 14), .ref (a 15), .ref (a 16), .ref (a 17), .ref (a 18)])), (a 3, .inr (4, [.ref (a 1), .ref (a 20), .int 0, .int (-1), .int 0, .int 0, .int 0, .int 0]))]) (QI (sp_fault x)) 0 0 NoF := by
  refine Met.ofW (cc := cX11_fault) (maxL := 2) (ret := (some .int)) (by decide) rfl ?_
  intro p e s m args below meth c s₁ B hml hv
  obtain ⟨rfl, hP, hK, hN⟩ := hv
  have hx := B.exec
  have hb := B.bytes
  have hr := B.returns
  have hts : ∀ w ∈ TB, w.before _ s = true := fun w h => atoms_spec (ws := wd yX11_fault cX11_fault 2 (some .int)) B.pre w (List.mem_cons_of_mem _ h)
  have hown : s.vm.findClass RX11 = some m.cls := findClass_of_methodNamed B.named
  have hlocks := B.notSynchronized
  have hF : CallFix p m c cX11_fault 2 s _ TB RX11 := ⟨hx, hb, hml, hown, hts⟩
  have hl := lv_entry ([.ref (a 0), .int x]) (n := 2) (Nat.le_of_ble_eq_true rfl)
  rw [lg_entry_eq]
  generalize (lg_sl ([.ref (a 0), .int x]) ++ List.replicate (2 - (lg_sl ([.ref (a 0), .int x])).length) Slot.unset).toArray = ls at hl ⊢
  have hl : lv_has ls 2 [(0, .ref (a 0)), (1, .int x)] := hl
  have hS : va_S NoF s.heap s.heap [] := va_S.rf
  have hP : va_P D classes [(a 0, .inr (11, [.ref (a 1), .ref (a 20), .ref (a 3), .ref (a 40), .ref (a 4), .int 0, .ref (a 5), .ref (a 14), .ref (a 15), .ref (a 16), .ref (a 17), .ref (a 18)])), (a 3, .inr (4, [.ref (a 1), .ref (a 20), .int 0, .int (-1), .int 0, .int 0, .int 0, .int 0]))] s.heap := hP
  refine lv_iload_n hx hb dX11_fault_0 rfl (lv_at hl 1 rfl) ?_
  by_cases s_1 : x = 0
  · subst s_1
    refine lv_lookup (off := 27) (tgt := 28) hx hb dX11_fault_1 (by decide) (by decide) (by decide) ?_
    refine lv_aload_n hx hb dX11_fault_28 rfl (lv_at hl 0 rfl) ?_
    refine va_get (D := D) (ci := 11) (v := .ref (a 3)) (C := RX11) (T := TX11) (N := 12) hx hb hts iX11 hown hK hP 0 rfl rfl 2 (by decide) (hts _ m_435) (fun _ h9 => h9) rfl dX11_fault_29 ?_
    refine va_getN (D := D) (ci := 4) (v := .int 0) (C := RX4) (T := TX4) (N := 8) (host := "WordSeats") hx hb hts iX4 hown hK hP 1 rfl rfl 2 (by decide) (va_Nw.use rfl (hN _ n_242)) (fun _ h9 => h9) rfl dX11_fault_32 ?_
    exact W.iret (v := 0) hx hb hr (fun t9 ht hW => ⟨⟨0, (), rfl, rfl, trivial⟩, hS.F ht⟩) hS.2.2 dX11_fault_35
  · by_cases s_2 : x = 1
    · subst s_2
      refine lv_lookup (off := 35) (tgt := 36) hx hb dX11_fault_1 (by decide) (by decide) (by decide) ?_
      refine lv_aload_n hx hb dX11_fault_36 rfl (lv_at hl 0 rfl) ?_
      refine va_get (D := D) (ci := 11) (v := .ref (a 3)) (C := RX11) (T := TX11) (N := 12) hx hb hts iX11 hown hK hP 0 rfl rfl 2 (by decide) (hts _ m_435) (fun _ h9 => h9) rfl dX11_fault_37 ?_
      refine va_getN (D := D) (ci := 4) (v := .int (-1)) (C := RX4) (T := TX4) (N := 8) (host := "WordSeats") hx hb hts iX4 hown hK hP 1 rfl rfl 3 (by decide) (va_Nw.use rfl (hN _ n_244)) (fun _ h9 => h9) rfl dX11_fault_40 ?_
      exact W.iret (v := (-1)) hx hb hr (fun t9 ht hW => ⟨⟨(-1), (), rfl, rfl, trivial⟩, hS.F ht⟩) hS.2.2 dX11_fault_43
    · refine lv_lookup (off := 43) (tgt := 44) hx hb dX11_fault_1 (by decide) ((lv_osw s_1 (by decide)).trans ((lv_osw s_2 (by decide)).trans rfl)) (by decide) ?_
      refine lv_iconst (v := (-1)) hx hb dX11_fault_44 (by decide) ?_
      exact W.iret (v := (-1)) hx hb hr (fun t9 ht hW => ⟨⟨(-1), (), rfl, (by unfold sp_fault; rw [if_neg s_1]), trivial⟩, hS.F ht⟩) hS.2.2 dX11_fault_45

set_option maxHeartbeats 4000000 in
set_option maxRecDepth 100000 in
theorem c_X6_isNothing0 (l : Launch) (D : va_G) (t : Nat → ClassId) (a : Nat → Nat) : Met l yX6_isNothing (wd yX6_isNothing cX6_isNothing 1 (some .boolean)) (RM 0 0 0) (PreP D (TY t) [.ref (a 6)] [(a 6, .inr (6, [.ref (a 10), .int (-1), .int 0]))]) (QI 1) 0 0 NoF := by
  refine Met.ofW (cc := cX6_isNothing) (maxL := 1) (ret := (some .boolean)) (by decide) rfl ?_
  intro p e s m args below meth c s₁ B hml hv
  obtain ⟨rfl, hP, hK, hN⟩ := hv
  have hx := B.exec
  have hb := B.bytes
  have hr := B.returns
  have hts : ∀ w ∈ TB, w.before _ s = true := fun w h => atoms_spec (ws := wd yX6_isNothing cX6_isNothing 1 (some .boolean)) B.pre w (List.mem_cons_of_mem _ h)
  have hown : s.vm.findClass RX6 = some m.cls := findClass_of_methodNamed B.named
  have hlocks := B.notSynchronized
  have hF : CallFix p m c cX6_isNothing 1 s _ TB RX6 := ⟨hx, hb, hml, hown, hts⟩
  have hl := lv_entry ([.ref (a 6)]) (n := 1) (Nat.le_of_ble_eq_true rfl)
  rw [lg_entry_eq]
  generalize (lg_sl ([.ref (a 6)]) ++ List.replicate (1 - (lg_sl ([.ref (a 6)])).length) Slot.unset).toArray = ls at hl ⊢
  have hl : lv_has ls 1 [(0, .ref (a 6))] := hl
  have hS : va_S NoF s.heap s.heap [] := va_S.rf
  have hP : va_P D classes [(a 6, .inr (6, [.ref (a 10), .int (-1), .int 0]))] s.heap := hP
  refine lv_aload_n hx hb dX6_isNothing_0 rfl (lv_at hl 0 rfl) ?_
  refine va_get (D := D) (ci := 6) (v := .int (-1)) (C := RX6) (T := TX6) (N := 3) hx hb hts iX6 hown hK hP 0 rfl rfl 1 (by decide) (hts _ m_420) (fun _ h9 => h9) rfl dX6_isNothing_1 ?_
  refine lv_iconst (v := (-1)) hx hb dX6_isNothing_4 (by decide) ?_
  refine lv_icmp_ne (tgt := 12) hx hb dX6_isNothing_5 (by decide) (fun c9 => absurd c9 (by decide)) (fun _ => ?_)
  refine lv_iconst (v := 1) hx hb dX6_isNothing_8 (by decide) ?_
  refine lv_goto (tgt := 13) hx hb dX6_isNothing_9 (by decide) ?_
  exact W.zret (v := 1) hx hb hr rfl (fun t9 ht hW => ⟨⟨1, (), rfl, rfl, trivial⟩, hS.F ht⟩) hS.2.2 dX6_isNothing_13

set_option maxHeartbeats 4000000 in
set_option maxRecDepth 100000 in
theorem c_X6_isNothing1 (l : Launch) (D : va_G) (t : Nat → ClassId) (a : Nat → Nat) : Met l yX6_isNothing (wd yX6_isNothing cX6_isNothing 1 (some .boolean)) (RM 0 0 0) (PreP D (TY t) [.ref (a 7)] [(a 7, .inr (6, [.ref (a 11), .int (-1), .int 0]))]) (QI 1) 0 0 NoF := by
  refine Met.ofW (cc := cX6_isNothing) (maxL := 1) (ret := (some .boolean)) (by decide) rfl ?_
  intro p e s m args below meth c s₁ B hml hv
  obtain ⟨rfl, hP, hK, hN⟩ := hv
  have hx := B.exec
  have hb := B.bytes
  have hr := B.returns
  have hts : ∀ w ∈ TB, w.before _ s = true := fun w h => atoms_spec (ws := wd yX6_isNothing cX6_isNothing 1 (some .boolean)) B.pre w (List.mem_cons_of_mem _ h)
  have hown : s.vm.findClass RX6 = some m.cls := findClass_of_methodNamed B.named
  have hlocks := B.notSynchronized
  have hF : CallFix p m c cX6_isNothing 1 s _ TB RX6 := ⟨hx, hb, hml, hown, hts⟩
  have hl := lv_entry ([.ref (a 7)]) (n := 1) (Nat.le_of_ble_eq_true rfl)
  rw [lg_entry_eq]
  generalize (lg_sl ([.ref (a 7)]) ++ List.replicate (1 - (lg_sl ([.ref (a 7)])).length) Slot.unset).toArray = ls at hl ⊢
  have hl : lv_has ls 1 [(0, .ref (a 7))] := hl
  have hS : va_S NoF s.heap s.heap [] := va_S.rf
  have hP : va_P D classes [(a 7, .inr (6, [.ref (a 11), .int (-1), .int 0]))] s.heap := hP
  refine lv_aload_n hx hb dX6_isNothing_0 rfl (lv_at hl 0 rfl) ?_
  refine va_get (D := D) (ci := 6) (v := .int (-1)) (C := RX6) (T := TX6) (N := 3) hx hb hts iX6 hown hK hP 0 rfl rfl 1 (by decide) (hts _ m_420) (fun _ h9 => h9) rfl dX6_isNothing_1 ?_
  refine lv_iconst (v := (-1)) hx hb dX6_isNothing_4 (by decide) ?_
  refine lv_icmp_ne (tgt := 12) hx hb dX6_isNothing_5 (by decide) (fun c9 => absurd c9 (by decide)) (fun _ => ?_)
  refine lv_iconst (v := 1) hx hb dX6_isNothing_8 (by decide) ?_
  refine lv_goto (tgt := 13) hx hb dX6_isNothing_9 (by decide) ?_
  exact W.zret (v := 1) hx hb hr rfl (fun t9 ht hW => ⟨⟨1, (), rfl, rfl, trivial⟩, hS.F ht⟩) hS.2.2 dX6_isNothing_13

set_option maxHeartbeats 4000000 in
set_option maxRecDepth 100000 in
theorem c_X6_isNothing2 (l : Launch) (D : va_G) (t : Nat → ClassId) (a : Nat → Nat) : Met l yX6_isNothing (wd yX6_isNothing cX6_isNothing 1 (some .boolean)) (RM 0 0 0) (PreP D (TY t) [.ref (a 8)] [(a 8, .inr (6, [.ref (a 12), .int (-1), .int 0]))]) (QI 1) 0 0 NoF := by
  refine Met.ofW (cc := cX6_isNothing) (maxL := 1) (ret := (some .boolean)) (by decide) rfl ?_
  intro p e s m args below meth c s₁ B hml hv
  obtain ⟨rfl, hP, hK, hN⟩ := hv
  have hx := B.exec
  have hb := B.bytes
  have hr := B.returns
  have hts : ∀ w ∈ TB, w.before _ s = true := fun w h => atoms_spec (ws := wd yX6_isNothing cX6_isNothing 1 (some .boolean)) B.pre w (List.mem_cons_of_mem _ h)
  have hown : s.vm.findClass RX6 = some m.cls := findClass_of_methodNamed B.named
  have hlocks := B.notSynchronized
  have hF : CallFix p m c cX6_isNothing 1 s _ TB RX6 := ⟨hx, hb, hml, hown, hts⟩
  have hl := lv_entry ([.ref (a 8)]) (n := 1) (Nat.le_of_ble_eq_true rfl)
  rw [lg_entry_eq]
  generalize (lg_sl ([.ref (a 8)]) ++ List.replicate (1 - (lg_sl ([.ref (a 8)])).length) Slot.unset).toArray = ls at hl ⊢
  have hl : lv_has ls 1 [(0, .ref (a 8))] := hl
  have hS : va_S NoF s.heap s.heap [] := va_S.rf
  have hP : va_P D classes [(a 8, .inr (6, [.ref (a 12), .int (-1), .int 0]))] s.heap := hP
  refine lv_aload_n hx hb dX6_isNothing_0 rfl (lv_at hl 0 rfl) ?_
  refine va_get (D := D) (ci := 6) (v := .int (-1)) (C := RX6) (T := TX6) (N := 3) hx hb hts iX6 hown hK hP 0 rfl rfl 1 (by decide) (hts _ m_420) (fun _ h9 => h9) rfl dX6_isNothing_1 ?_
  refine lv_iconst (v := (-1)) hx hb dX6_isNothing_4 (by decide) ?_
  refine lv_icmp_ne (tgt := 12) hx hb dX6_isNothing_5 (by decide) (fun c9 => absurd c9 (by decide)) (fun _ => ?_)
  refine lv_iconst (v := 1) hx hb dX6_isNothing_8 (by decide) ?_
  refine lv_goto (tgt := 13) hx hb dX6_isNothing_9 (by decide) ?_
  exact W.zret (v := 1) hx hb hr rfl (fun t9 ht hW => ⟨⟨1, (), rfl, rfl, trivial⟩, hS.F ht⟩) hS.2.2 dX6_isNothing_13

set_option maxHeartbeats 4000000 in
set_option maxRecDepth 100000 in
theorem c_X6_isNothing3 (l : Launch) (D : va_G) (t : Nat → ClassId) (a : Nat → Nat) : Met l yX6_isNothing (wd yX6_isNothing cX6_isNothing 1 (some .boolean)) (RM 0 0 0) (PreP D (TY t) [.ref (a 9)] [(a 9, .inr (6, [.ref (a 13), .int (-1), .int 0]))]) (QI 1) 0 0 NoF := by
  refine Met.ofW (cc := cX6_isNothing) (maxL := 1) (ret := (some .boolean)) (by decide) rfl ?_
  intro p e s m args below meth c s₁ B hml hv
  obtain ⟨rfl, hP, hK, hN⟩ := hv
  have hx := B.exec
  have hb := B.bytes
  have hr := B.returns
  have hts : ∀ w ∈ TB, w.before _ s = true := fun w h => atoms_spec (ws := wd yX6_isNothing cX6_isNothing 1 (some .boolean)) B.pre w (List.mem_cons_of_mem _ h)
  have hown : s.vm.findClass RX6 = some m.cls := findClass_of_methodNamed B.named
  have hlocks := B.notSynchronized
  have hF : CallFix p m c cX6_isNothing 1 s _ TB RX6 := ⟨hx, hb, hml, hown, hts⟩
  have hl := lv_entry ([.ref (a 9)]) (n := 1) (Nat.le_of_ble_eq_true rfl)
  rw [lg_entry_eq]
  generalize (lg_sl ([.ref (a 9)]) ++ List.replicate (1 - (lg_sl ([.ref (a 9)])).length) Slot.unset).toArray = ls at hl ⊢
  have hl : lv_has ls 1 [(0, .ref (a 9))] := hl
  have hS : va_S NoF s.heap s.heap [] := va_S.rf
  have hP : va_P D classes [(a 9, .inr (6, [.ref (a 13), .int (-1), .int 0]))] s.heap := hP
  refine lv_aload_n hx hb dX6_isNothing_0 rfl (lv_at hl 0 rfl) ?_
  refine va_get (D := D) (ci := 6) (v := .int (-1)) (C := RX6) (T := TX6) (N := 3) hx hb hts iX6 hown hK hP 0 rfl rfl 1 (by decide) (hts _ m_420) (fun _ h9 => h9) rfl dX6_isNothing_1 ?_
  refine lv_iconst (v := (-1)) hx hb dX6_isNothing_4 (by decide) ?_
  refine lv_icmp_ne (tgt := 12) hx hb dX6_isNothing_5 (by decide) (fun c9 => absurd c9 (by decide)) (fun _ => ?_)
  refine lv_iconst (v := 1) hx hb dX6_isNothing_8 (by decide) ?_
  refine lv_goto (tgt := 13) hx hb dX6_isNothing_9 (by decide) ?_
  exact W.zret (v := 1) hx hb hr rfl (fun t9 ht hW => ⟨⟨1, (), rfl, rfl, trivial⟩, hS.F ht⟩) hS.2.2 dX6_isNothing_13

set_option maxHeartbeats 4000000 in
set_option maxRecDepth 100000 in
theorem c_X11_filledSlots (l : Launch) (D : va_G) (t : Nat → ClassId) (a : Nat → Nat) : Met l yX11_filledSlots (wd yX11_filledSlots cX11_filledSlots 3 (some .int)) (RM 1 0 0) (PreP D (TY t) [.ref (a 0)] [(a 0, .inr (11, [.ref (a 1), .ref (a 20), .ref (a 3), .ref (a 40), .ref (a 4), .int 0, .ref (a 5), .ref (a 14), .ref (a 15), .ref (a 16), .ref (a 17), .ref (a 18)])), (a 5, .inl (t 5, 4, .inr (.inr (.inr (.inr (va_up (va_up (va_up (va_up (fun _ => none) 0 (some (a 6))) 1 (some (a 7))) 2 (some (a 8))) 3 (some (a 9)))))))), (a 6, .inr (6, [.ref (a 10), .int (-1), .int 0])), (a 7, .inr (6, [.ref (a 11), .int (-1), .int 0])), (a 8, .inr (6, [.ref (a 12), .int (-1), .int 0])), (a 9, .inr (6, [.ref (a 13), .int (-1), .int 0]))]) (QI 0) 0 0 NoF := by
  refine Met.ofW (cc := cX11_filledSlots) (maxL := 3) (ret := (some .int)) (by decide) rfl ?_
  intro p e s m args below meth c s₁ B hml hv
  obtain ⟨rfl, hP, hK, hN⟩ := hv
  have hx := B.exec
  have hb := B.bytes
  have hr := B.returns
  have hts : ∀ w ∈ TB, w.before _ s = true := fun w h => atoms_spec (ws := wd yX11_filledSlots cX11_filledSlots 3 (some .int)) B.pre w (List.mem_cons_of_mem _ h)
  have hown : s.vm.findClass RX11 = some m.cls := findClass_of_methodNamed B.named
  have hlocks := B.notSynchronized
  have hF : CallFix p m c cX11_filledSlots 3 s _ TB RX11 := ⟨hx, hb, hml, hown, hts⟩
  have hl := lv_entry ([.ref (a 0)]) (n := 3) (Nat.le_of_ble_eq_true rfl)
  rw [lg_entry_eq]
  generalize (lg_sl ([.ref (a 0)]) ++ List.replicate (3 - (lg_sl ([.ref (a 0)])).length) Slot.unset).toArray = ls at hl ⊢
  have hl : lv_has ls 3 [(0, .ref (a 0))] := hl
  have hS : va_S NoF s.heap s.heap [] := va_S.rf
  have hP : va_P D classes [(a 0, .inr (11, [.ref (a 1), .ref (a 20), .ref (a 3), .ref (a 40), .ref (a 4), .int 0, .ref (a 5), .ref (a 14), .ref (a 15), .ref (a 16), .ref (a 17), .ref (a 18)])), (a 5, .inl (t 5, 4, .inr (.inr (.inr (.inr (va_up (va_up (va_up (va_up (fun _ => none) 0 (some (a 6))) 1 (some (a 7))) 2 (some (a 8))) 3 (some (a 9)))))))), (a 6, .inr (6, [.ref (a 10), .int (-1), .int 0])), (a 7, .inr (6, [.ref (a 11), .int (-1), .int 0])), (a 8, .inr (6, [.ref (a 12), .int (-1), .int 0])), (a 9, .inr (6, [.ref (a 13), .int (-1), .int 0]))] s.heap := hP
  refine lv_iconst (v := 0) hx hb dX11_filledSlots_0 (by decide) ?_
  refine lv_istore_n (lv' := [(1, .int 0), (0, .ref (a 0))]) hx hb dX11_filledSlots_1 rfl hl (by decide) rfl (fun ls hl => ?_)
  refine lv_iconst (v := 0) hx hb dX11_filledSlots_2 (by decide) ?_
  refine lv_istore_n (lv' := [(2, .int 0), (1, .int 0), (0, .ref (a 0))]) hx hb dX11_filledSlots_3 rfl hl (by decide) rfl (fun ls hl => ?_)
  refine lv_iload_n hx hb dX11_filledSlots_4 rfl (lv_at hl 0 rfl) ?_
  refine lv_iconst (v := 4) hx hb dX11_filledSlots_5 (by decide) ?_
  refine lv_icmp_ge (tgt := 30) hx hb dX11_filledSlots_6 (by decide) (fun c9 => absurd c9 (by decide)) (fun _ => ?_)
  refine lv_aload_n hx hb dX11_filledSlots_9 rfl (lv_at hl 2 rfl) ?_
  refine va_get (D := D) (ci := 11) (v := .ref (a 5)) (C := RX11) (T := TX11) (N := 12) hx hb hts iX11 hown hK hP 0 rfl rfl 6 (by decide) (hts _ m_439) (fun _ h9 => h9) rfl dX11_filledSlots_10 ?_
  refine lv_iload_n hx hb dX11_filledSlots_13 rfl (lv_at hl 0 rfl) ?_
  refine va_aldq hx hb hK hP 1 5 rfl rfl (vp_in_nI (n := 0) (by decide) (by decide)) dX11_filledSlots_14 ?_
  refine W.eq (g2 := F0 m 15 ls [.ref (a 6)]) rfl ?_
  refine x_pV hF (c_X6_isNothing0 l D t a) m_1223 m_1224 m_1225 m_12 m_1226 hd_X6_isNothing ⟨Nat.le_of_ble_eq_true rfl, Nat.le_of_ble_eq_true rfl⟩ hK hN hP hS [2] rfl 0 (ci := 6) rfl rfl rfl hl.1 rfl (Nat.le_of_ble_eq_true rfl) dX11_filledSlots_15 ⟨Nat.zero_le _, Nat.zero_le _⟩ (fun H locs hP hS => ?_)
  refine lv_if_ne (tgt := 24) hx hb dX11_filledSlots_18 (by decide) (fun _ => ?_) (fun c9 => absurd c9 (by decide))
  refine lv_iinc (v := 1) (lv' := [(2, .int 1), (1, .int 0), (0, .ref (a 0))]) hx hb dX11_filledSlots_24 hl (k := 0) rfl (by decide) (by decide) rfl (fun ls hl => ?_)
  refine lv_goto (tgt := 4) hx hb dX11_filledSlots_27 (by decide) ?_
  refine lv_iload_n hx hb dX11_filledSlots_4 rfl (lv_at hl 0 rfl) ?_
  refine lv_iconst (v := 4) hx hb dX11_filledSlots_5 (by decide) ?_
  refine lv_icmp_ge (tgt := 30) hx hb dX11_filledSlots_6 (by decide) (fun c9 => absurd c9 (by decide)) (fun _ => ?_)
  refine lv_aload_n hx hb dX11_filledSlots_9 rfl (lv_at hl 2 rfl) ?_
  refine va_get (D := D) (ci := 11) (v := .ref (a 5)) (C := RX11) (T := TX11) (N := 12) hx hb hts iX11 hown hK hP 0 rfl rfl 6 (by decide) (hts _ m_439) (fun _ h9 => h9) rfl dX11_filledSlots_10 ?_
  refine lv_iload_n hx hb dX11_filledSlots_13 rfl (lv_at hl 0 rfl) ?_
  refine va_aldq hx hb hK hP 1 5 rfl rfl (vp_in_nI (n := 1) (by decide) (by decide)) dX11_filledSlots_14 ?_
  refine W.eq (g2 := F0 m 15 ls [.ref (a 7)]) rfl ?_
  refine x_pV hF (c_X6_isNothing1 l D t a) m_1223 m_1224 m_1225 m_12 m_1226 hd_X6_isNothing ⟨Nat.le_of_ble_eq_true rfl, Nat.le_of_ble_eq_true rfl⟩ hK hN hP hS [3] rfl 0 (ci := 6) rfl rfl rfl hl.1 rfl (Nat.le_of_ble_eq_true rfl) dX11_filledSlots_15 ⟨Nat.zero_le _, Nat.zero_le _⟩ (fun H locs hP hS => ?_)
  refine lv_if_ne (tgt := 24) hx hb dX11_filledSlots_18 (by decide) (fun _ => ?_) (fun c9 => absurd c9 (by decide))
  refine lv_iinc (v := 2) (lv' := [(2, .int 2), (1, .int 0), (0, .ref (a 0))]) hx hb dX11_filledSlots_24 hl (k := 0) rfl (by decide) (by decide) rfl (fun ls hl => ?_)
  refine lv_goto (tgt := 4) hx hb dX11_filledSlots_27 (by decide) ?_
  refine lv_iload_n hx hb dX11_filledSlots_4 rfl (lv_at hl 0 rfl) ?_
  refine lv_iconst (v := 4) hx hb dX11_filledSlots_5 (by decide) ?_
  refine lv_icmp_ge (tgt := 30) hx hb dX11_filledSlots_6 (by decide) (fun c9 => absurd c9 (by decide)) (fun _ => ?_)
  refine lv_aload_n hx hb dX11_filledSlots_9 rfl (lv_at hl 2 rfl) ?_
  refine va_get (D := D) (ci := 11) (v := .ref (a 5)) (C := RX11) (T := TX11) (N := 12) hx hb hts iX11 hown hK hP 0 rfl rfl 6 (by decide) (hts _ m_439) (fun _ h9 => h9) rfl dX11_filledSlots_10 ?_
  refine lv_iload_n hx hb dX11_filledSlots_13 rfl (lv_at hl 0 rfl) ?_
  refine va_aldq hx hb hK hP 1 5 rfl rfl (vp_in_nI (n := 2) (by decide) (by decide)) dX11_filledSlots_14 ?_
  refine W.eq (g2 := F0 m 15 ls [.ref (a 8)]) rfl ?_
  refine x_pV hF (c_X6_isNothing2 l D t a) m_1223 m_1224 m_1225 m_12 m_1226 hd_X6_isNothing ⟨Nat.le_of_ble_eq_true rfl, Nat.le_of_ble_eq_true rfl⟩ hK hN hP hS [4] rfl 0 (ci := 6) rfl rfl rfl hl.1 rfl (Nat.le_of_ble_eq_true rfl) dX11_filledSlots_15 ⟨Nat.zero_le _, Nat.zero_le _⟩ (fun H locs hP hS => ?_)
  refine lv_if_ne (tgt := 24) hx hb dX11_filledSlots_18 (by decide) (fun _ => ?_) (fun c9 => absurd c9 (by decide))
  refine lv_iinc (v := 3) (lv' := [(2, .int 3), (1, .int 0), (0, .ref (a 0))]) hx hb dX11_filledSlots_24 hl (k := 0) rfl (by decide) (by decide) rfl (fun ls hl => ?_)
  refine lv_goto (tgt := 4) hx hb dX11_filledSlots_27 (by decide) ?_
  refine lv_iload_n hx hb dX11_filledSlots_4 rfl (lv_at hl 0 rfl) ?_
  refine lv_iconst (v := 4) hx hb dX11_filledSlots_5 (by decide) ?_
  refine lv_icmp_ge (tgt := 30) hx hb dX11_filledSlots_6 (by decide) (fun c9 => absurd c9 (by decide)) (fun _ => ?_)
  refine lv_aload_n hx hb dX11_filledSlots_9 rfl (lv_at hl 2 rfl) ?_
  refine va_get (D := D) (ci := 11) (v := .ref (a 5)) (C := RX11) (T := TX11) (N := 12) hx hb hts iX11 hown hK hP 0 rfl rfl 6 (by decide) (hts _ m_439) (fun _ h9 => h9) rfl dX11_filledSlots_10 ?_
  refine lv_iload_n hx hb dX11_filledSlots_13 rfl (lv_at hl 0 rfl) ?_
  refine va_aldq hx hb hK hP 1 5 rfl rfl (vp_in_nI (n := 3) (by decide) (by decide)) dX11_filledSlots_14 ?_
  refine W.eq (g2 := F0 m 15 ls [.ref (a 9)]) rfl ?_
  refine x_pV hF (c_X6_isNothing3 l D t a) m_1223 m_1224 m_1225 m_12 m_1226 hd_X6_isNothing ⟨Nat.le_of_ble_eq_true rfl, Nat.le_of_ble_eq_true rfl⟩ hK hN hP hS [5] rfl 0 (ci := 6) rfl rfl rfl hl.1 rfl (Nat.le_of_ble_eq_true rfl) dX11_filledSlots_15 ⟨Nat.zero_le _, Nat.zero_le _⟩ (fun H locs hP hS => ?_)
  refine lv_if_ne (tgt := 24) hx hb dX11_filledSlots_18 (by decide) (fun _ => ?_) (fun c9 => absurd c9 (by decide))
  refine lv_iinc (v := 4) (lv' := [(2, .int 4), (1, .int 0), (0, .ref (a 0))]) hx hb dX11_filledSlots_24 hl (k := 0) rfl (by decide) (by decide) rfl (fun ls hl => ?_)
  refine lv_goto (tgt := 4) hx hb dX11_filledSlots_27 (by decide) ?_
  refine lv_iload_n hx hb dX11_filledSlots_4 rfl (lv_at hl 0 rfl) ?_
  refine lv_iconst (v := 4) hx hb dX11_filledSlots_5 (by decide) ?_
  refine lv_icmp_ge (tgt := 30) hx hb dX11_filledSlots_6 (by decide) (fun _ => ?_) (fun c9 => absurd (by decide) c9)
  refine lv_iload_n hx hb dX11_filledSlots_30 rfl (lv_at hl 1 rfl) ?_
  exact W.iret (v := 0) hx hb hr (fun t9 ht hW => ⟨⟨0, (), rfl, rfl, trivial⟩, hS.F ht⟩) hS.2.2 dX11_filledSlots_31

set_option maxHeartbeats 4000000 in
set_option maxRecDepth 100000 in
theorem c_X11_count (l : Launch) (D : va_G) (t : Nat → ClassId) (a : Nat → Nat) (x : Int32) : Met l yX11_count (wd yX11_count cX11_count 2 (some .int)) (RM 2 0 0) (PreP D (TY t) [.ref (a 0), .int x] [(a 0, .inr (11, [.ref (a 1), .ref (a 20), .ref (a 3), .ref (a 40), .ref (a 4), .int 0, .ref (a 5), .ref (a 14), .ref (a 15), .ref (a 16), .ref (a 17), .ref (a 18)])), (a 40, .inr (0, [.int 0, .int 0, .int 0, .int 0, .int 0, .int 0, .int 0, .int 0, .ref (a 41), .ref (a 42), .ref (a 43), .ref (a 44), .ref (a 45), .ref (a 46), .ref (a 47), .ref (a 48), .ref (a 49), .ref (a 50), .ref (a 54)])), (a 1, .inr (8, [.ref (a 2), .int 0])), (a 50, .inr (5, [.int 0, .ref (a 51), .ref (a 52), .ref (a 53)])), (a 54, .inr (9, [.int 0, .int 0, .int 0, .ref (a 55), .ref (a 56), .ref (a 57), .ref (a 58)])), (a 5, .inl (t 5, 4, .inr (.inr (.inr (.inr (va_up (va_up (va_up (va_up (fun _ => none) 0 (some (a 6))) 1 (some (a 7))) 2 (some (a 8))) 3 (some (a 9)))))))), (a 6, .inr (6, [.ref (a 10), .int (-1), .int 0])), (a 7, .inr (6, [.ref (a 11), .int (-1), .int 0])), (a 8, .inr (6, [.ref (a 12), .int (-1), .int 0])), (a 9, .inr (6, [.ref (a 13), .int (-1), .int 0]))]) (QI (sp_count x)) 0 0 NoF := by
  refine Met.ofW (cc := cX11_count) (maxL := 2) (ret := (some .int)) (by decide) rfl ?_
  intro p e s m args below meth c s₁ B hml hv
  obtain ⟨rfl, hP, hK, hN⟩ := hv
  have hx := B.exec
  have hb := B.bytes
  have hr := B.returns
  have hts : ∀ w ∈ TB, w.before _ s = true := fun w h => atoms_spec (ws := wd yX11_count cX11_count 2 (some .int)) B.pre w (List.mem_cons_of_mem _ h)
  have hown : s.vm.findClass RX11 = some m.cls := findClass_of_methodNamed B.named
  have hlocks := B.notSynchronized
  have hF : CallFix p m c cX11_count 2 s _ TB RX11 := ⟨hx, hb, hml, hown, hts⟩
  have hl := lv_entry ([.ref (a 0), .int x]) (n := 2) (Nat.le_of_ble_eq_true rfl)
  rw [lg_entry_eq]
  generalize (lg_sl ([.ref (a 0), .int x]) ++ List.replicate (2 - (lg_sl ([.ref (a 0), .int x])).length) Slot.unset).toArray = ls at hl ⊢
  have hl : lv_has ls 2 [(0, .ref (a 0)), (1, .int x)] := hl
  have hS : va_S NoF s.heap s.heap [] := va_S.rf
  have hP : va_P D classes [(a 0, .inr (11, [.ref (a 1), .ref (a 20), .ref (a 3), .ref (a 40), .ref (a 4), .int 0, .ref (a 5), .ref (a 14), .ref (a 15), .ref (a 16), .ref (a 17), .ref (a 18)])), (a 40, .inr (0, [.int 0, .int 0, .int 0, .int 0, .int 0, .int 0, .int 0, .int 0, .ref (a 41), .ref (a 42), .ref (a 43), .ref (a 44), .ref (a 45), .ref (a 46), .ref (a 47), .ref (a 48), .ref (a 49), .ref (a 50), .ref (a 54)])), (a 1, .inr (8, [.ref (a 2), .int 0])), (a 50, .inr (5, [.int 0, .ref (a 51), .ref (a 52), .ref (a 53)])), (a 54, .inr (9, [.int 0, .int 0, .int 0, .ref (a 55), .ref (a 56), .ref (a 57), .ref (a 58)])), (a 5, .inl (t 5, 4, .inr (.inr (.inr (.inr (va_up (va_up (va_up (va_up (fun _ => none) 0 (some (a 6))) 1 (some (a 7))) 2 (some (a 8))) 3 (some (a 9)))))))), (a 6, .inr (6, [.ref (a 10), .int (-1), .int 0])), (a 7, .inr (6, [.ref (a 11), .int (-1), .int 0])), (a 8, .inr (6, [.ref (a 12), .int (-1), .int 0])), (a 9, .inr (6, [.ref (a 13), .int (-1), .int 0]))] s.heap := hP
  refine lv_iload_n hx hb dX11_count_0 rfl (lv_at hl 1 rfl) ?_
  rcases x_sw 12 x (by decide) with s_1 | ⟨j_2, hj_2, rfl⟩
  · refine lv_tableOut (tgt := 163) hx hb dX11_count_1 s_1 (by decide) ?_
    refine lv_iconst (v := (-1)) hx hb dX11_count_163 (by decide) ?_
    exact W.iret (v := (-1)) hx hb hr (fun t9 ht hW => ⟨⟨(-1), (), rfl, (sp_cnt0 s_1), trivial⟩, hS.F ht⟩) hS.2.2 dX11_count_164
  · obtain rfl | rfl | rfl | rfl | rfl | rfl | rfl | rfl | rfl | rfl | rfl | rfl : j_2 = 0 ∨ j_2 = 1 ∨ j_2 = 2 ∨ j_2 = 3 ∨ j_2 = 4 ∨ j_2 = 5 ∨ j_2 = 6 ∨ j_2 = 7 ∨ j_2 = 8 ∨ j_2 = 9 ∨ j_2 = 10 ∨ j_2 = 11 := by omega
    · refine lv_tableIn (off := 63) (tgt := 64) hx hb dX11_count_1 (by decide) (by decide) rfl (by decide) ?_
      refine lv_aload_n hx hb dX11_count_64 rfl (lv_at hl 0 rfl) ?_
      refine va_get (D := D) (ci := 11) (v := .ref (a 40)) (C := RX11) (T := TX11) (N := 12) hx hb hts iX11 hown hK hP 0 rfl rfl 3 (by decide) (hts _ m_436) (fun _ h9 => h9) rfl dX11_count_65 ?_
      refine va_getN (D := D) (ci := 0) (v := .int 0) (C := RX0) (T := TX0) (N := 19) (host := "WordSeats") hx hb hts iX0 hown hK hP 1 rfl rfl 1 (by decide) (va_Nw.use rfl (hN _ n_124)) (fun _ h9 => h9) rfl dX11_count_68 ?_
      exact W.iret (v := 0) hx hb hr (fun t9 ht hW => ⟨⟨0, (), rfl, rfl, trivial⟩, hS.F ht⟩) hS.2.2 dX11_count_71
    · refine lv_tableIn (off := 71) (tgt := 72) hx hb dX11_count_1 (by decide) (by decide) rfl (by decide) ?_
      refine lv_aload_n hx hb dX11_count_72 rfl (lv_at hl 0 rfl) ?_
      refine va_get (D := D) (ci := 11) (v := .ref (a 40)) (C := RX11) (T := TX11) (N := 12) hx hb hts iX11 hown hK hP 0 rfl rfl 3 (by decide) (hts _ m_436) (fun _ h9 => h9) rfl dX11_count_73 ?_
      refine va_getN (D := D) (ci := 0) (v := .int 0) (C := RX0) (T := TX0) (N := 19) (host := "WordSeats") hx hb hts iX0 hown hK hP 1 rfl rfl 2 (by decide) (va_Nw.use rfl (hN _ n_128)) (fun _ h9 => h9) rfl dX11_count_76 ?_
      exact W.iret (v := 0) hx hb hr (fun t9 ht hW => ⟨⟨0, (), rfl, rfl, trivial⟩, hS.F ht⟩) hS.2.2 dX11_count_79
    · refine lv_tableIn (off := 79) (tgt := 80) hx hb dX11_count_1 (by decide) (by decide) rfl (by decide) ?_
      refine lv_aload_n hx hb dX11_count_80 rfl (lv_at hl 0 rfl) ?_
      refine va_get (D := D) (ci := 11) (v := .ref (a 40)) (C := RX11) (T := TX11) (N := 12) hx hb hts iX11 hown hK hP 0 rfl rfl 3 (by decide) (hts _ m_436) (fun _ h9 => h9) rfl dX11_count_81 ?_
      refine va_getN (D := D) (ci := 0) (v := .int 0) (C := RX0) (T := TX0) (N := 19) (host := "WordSeats") hx hb hts iX0 hown hK hP 1 rfl rfl 3 (by decide) (va_Nw.use rfl (hN _ n_131)) (fun _ h9 => h9) rfl dX11_count_84 ?_
      exact W.iret (v := 0) hx hb hr (fun t9 ht hW => ⟨⟨0, (), rfl, rfl, trivial⟩, hS.F ht⟩) hS.2.2 dX11_count_87
    · refine lv_tableIn (off := 87) (tgt := 88) hx hb dX11_count_1 (by decide) (by decide) rfl (by decide) ?_
      refine lv_aload_n hx hb dX11_count_88 rfl (lv_at hl 0 rfl) ?_
      refine va_get (D := D) (ci := 11) (v := .ref (a 40)) (C := RX11) (T := TX11) (N := 12) hx hb hts iX11 hown hK hP 0 rfl rfl 3 (by decide) (hts _ m_436) (fun _ h9 => h9) rfl dX11_count_89 ?_
      refine va_getN (D := D) (ci := 0) (v := .int 0) (C := RX0) (T := TX0) (N := 19) (host := "WordSeats") hx hb hts iX0 hown hK hP 1 rfl rfl 4 (by decide) (va_Nw.use rfl (hN _ n_133)) (fun _ h9 => h9) rfl dX11_count_92 ?_
      exact W.iret (v := 0) hx hb hr (fun t9 ht hW => ⟨⟨0, (), rfl, rfl, trivial⟩, hS.F ht⟩) hS.2.2 dX11_count_95
    · refine lv_tableIn (off := 95) (tgt := 96) hx hb dX11_count_1 (by decide) (by decide) rfl (by decide) ?_
      refine lv_aload_n hx hb dX11_count_96 rfl (lv_at hl 0 rfl) ?_
      refine va_get (D := D) (ci := 11) (v := .ref (a 40)) (C := RX11) (T := TX11) (N := 12) hx hb hts iX11 hown hK hP 0 rfl rfl 3 (by decide) (hts _ m_436) (fun _ h9 => h9) rfl dX11_count_97 ?_
      refine va_getN (D := D) (ci := 0) (v := .int 0) (C := RX0) (T := TX0) (N := 19) (host := "WordSeats") hx hb hts iX0 hown hK hP 1 rfl rfl 5 (by decide) (va_Nw.use rfl (hN _ n_139)) (fun _ h9 => h9) rfl dX11_count_100 ?_
      exact W.iret (v := 0) hx hb hr (fun t9 ht hW => ⟨⟨0, (), rfl, rfl, trivial⟩, hS.F ht⟩) hS.2.2 dX11_count_103
    · refine lv_tableIn (off := 103) (tgt := 104) hx hb dX11_count_1 (by decide) (by decide) rfl (by decide) ?_
      refine lv_aload_n hx hb dX11_count_104 rfl (lv_at hl 0 rfl) ?_
      refine va_get (D := D) (ci := 11) (v := .ref (a 40)) (C := RX11) (T := TX11) (N := 12) hx hb hts iX11 hown hK hP 0 rfl rfl 3 (by decide) (hts _ m_436) (fun _ h9 => h9) rfl dX11_count_105 ?_
      refine va_getN (D := D) (ci := 0) (v := .int 0) (C := RX0) (T := TX0) (N := 19) (host := "WordSeats") hx hb hts iX0 hown hK hP 1 rfl rfl 6 (by decide) (va_Nw.use rfl (hN _ n_146)) (fun _ h9 => h9) rfl dX11_count_108 ?_
      exact W.iret (v := 0) hx hb hr (fun t9 ht hW => ⟨⟨0, (), rfl, rfl, trivial⟩, hS.F ht⟩) hS.2.2 dX11_count_111
    · refine lv_tableIn (off := 111) (tgt := 112) hx hb dX11_count_1 (by decide) (by decide) rfl (by decide) ?_
      refine lv_aload_n hx hb dX11_count_112 rfl (lv_at hl 0 rfl) ?_
      refine va_get (D := D) (ci := 11) (v := .ref (a 40)) (C := RX11) (T := TX11) (N := 12) hx hb hts iX11 hown hK hP 0 rfl rfl 3 (by decide) (hts _ m_436) (fun _ h9 => h9) rfl dX11_count_113 ?_
      refine va_getN (D := D) (ci := 0) (v := .int 0) (C := RX0) (T := TX0) (N := 19) (host := "WordSeats") hx hb hts iX0 hown hK hP 1 rfl rfl 7 (by decide) (va_Nw.use rfl (hN _ n_152)) (fun _ h9 => h9) rfl dX11_count_116 ?_
      exact W.iret (v := 0) hx hb hr (fun t9 ht hW => ⟨⟨0, (), rfl, rfl, trivial⟩, hS.F ht⟩) hS.2.2 dX11_count_119
    · refine lv_tableIn (off := 119) (tgt := 120) hx hb dX11_count_1 (by decide) (by decide) rfl (by decide) ?_
      refine lv_aload_n hx hb dX11_count_120 rfl (lv_at hl 0 rfl) ?_
      refine va_get (D := D) (ci := 11) (v := .ref (a 40)) (C := RX11) (T := TX11) (N := 12) hx hb hts iX11 hown hK hP 0 rfl rfl 3 (by decide) (hts _ m_436) (fun _ h9 => h9) rfl dX11_count_121 ?_
      refine va_getN (D := D) (ci := 0) (v := .ref (a 50)) (C := RX0) (T := TX0) (N := 19) (host := "WordSeats") hx hb hts iX0 hown hK hP 1 rfl rfl 17 (by decide) (va_Nw.use rfl (hN _ n_188)) (fun _ h9 => h9) rfl dX11_count_124 ?_
      refine va_getN (D := D) (ci := 5) (v := .int 0) (C := RX5) (T := TX5) (N := 4) (host := "WordSeats") hx hb hts iX5 hown hK hP 3 rfl rfl 0 (by decide) (va_Nw.use rfl (hN _ n_62)) (fun _ h9 => h9) rfl dX11_count_127 ?_
      exact W.iret (v := 0) hx hb hr (fun t9 ht hW => ⟨⟨0, (), rfl, rfl, trivial⟩, hS.F ht⟩) hS.2.2 dX11_count_130
    · refine lv_tableIn (off := 130) (tgt := 131) hx hb dX11_count_1 (by decide) (by decide) rfl (by decide) ?_
      refine lv_aload_n hx hb dX11_count_131 rfl (lv_at hl 0 rfl) ?_
      refine va_get (D := D) (ci := 11) (v := .ref (a 40)) (C := RX11) (T := TX11) (N := 12) hx hb hts iX11 hown hK hP 0 rfl rfl 3 (by decide) (hts _ m_436) (fun _ h9 => h9) rfl dX11_count_132 ?_
      refine va_getN (D := D) (ci := 0) (v := .ref (a 54)) (C := RX0) (T := TX0) (N := 19) (host := "WordSeats") hx hb hts iX0 hown hK hP 1 rfl rfl 18 (by decide) (va_Nw.use rfl (hN _ n_191)) (fun _ h9 => h9) rfl dX11_count_135 ?_
      refine va_getN (D := D) (ci := 9) (v := .int 0) (C := RX9) (T := TX9) (N := 7) (host := "WordSeats") hx hb hts iX9 hown hK hP 4 rfl rfl 0 (by decide) (va_Nw.use rfl (hN _ n_86)) (fun _ h9 => h9) rfl dX11_count_138 ?_
      exact W.iret (v := 0) hx hb hr (fun t9 ht hW => ⟨⟨0, (), rfl, rfl, trivial⟩, hS.F ht⟩) hS.2.2 dX11_count_141
    · refine lv_tableIn (off := 141) (tgt := 142) hx hb dX11_count_1 (by decide) (by decide) rfl (by decide) ?_
      refine lv_aload_n hx hb dX11_count_142 rfl (lv_at hl 0 rfl) ?_
      refine va_get (D := D) (ci := 11) (v := .ref (a 40)) (C := RX11) (T := TX11) (N := 12) hx hb hts iX11 hown hK hP 0 rfl rfl 3 (by decide) (hts _ m_436) (fun _ h9 => h9) rfl dX11_count_143 ?_
      refine va_getN (D := D) (ci := 0) (v := .int 0) (C := RX0) (T := TX0) (N := 19) (host := "WordSeats") hx hb hts iX0 hown hK hP 1 rfl rfl 0 (by decide) (va_Nw.use rfl (hN _ n_119)) (fun _ h9 => h9) rfl dX11_count_146 ?_
      exact W.iret (v := 0) hx hb hr (fun t9 ht hW => ⟨⟨0, (), rfl, rfl, trivial⟩, hS.F ht⟩) hS.2.2 dX11_count_149
    · refine lv_tableIn (off := 149) (tgt := 150) hx hb dX11_count_1 (by decide) (by decide) rfl (by decide) ?_
      refine lv_aload_n hx hb dX11_count_150 rfl (lv_at hl 0 rfl) ?_
      refine va_get (D := D) (ci := 11) (v := .ref (a 1)) (C := RX11) (T := TX11) (N := 12) hx hb hts iX11 hown hK hP 0 rfl rfl 0 (by decide) (hts _ m_433) (fun _ h9 => h9) rfl dX11_count_151 ?_
      refine va_getN (D := D) (ci := 8) (v := .int 0) (C := RX8) (T := TX8) (N := 2) (host := "WordSeats") hx hb hts iX8 hown hK hP 2 rfl rfl 1 (by decide) (va_Nw.use rfl (hN _ n_38)) (fun _ h9 => h9) rfl dX11_count_154 ?_
      exact W.iret (v := 0) hx hb hr (fun t9 ht hW => ⟨⟨0, (), rfl, rfl, trivial⟩, hS.F ht⟩) hS.2.2 dX11_count_157
    · refine lv_tableIn (off := 157) (tgt := 158) hx hb dX11_count_1 (by decide) (by decide) rfl (by decide) ?_
      refine lv_aload_n hx hb dX11_count_158 rfl (lv_at hl 0 rfl) ?_
      refine x_pV hF (c_X11_filledSlots l D t a) m_1294 m_1296 m_s35 m_1 m_1297 hd_X11_filledSlots ⟨Nat.le_of_ble_eq_true rfl, Nat.le_of_ble_eq_true rfl⟩ hK hN hP hS [0, 5, 6, 7, 8, 9] rfl 0 (ci := 11) rfl rfl rfl hl.1 rfl (Nat.le_of_ble_eq_true rfl) dX11_count_159 ⟨Nat.zero_le _, Nat.zero_le _⟩ (fun H locs hP hS => ?_)
      exact W.iret (v := 0) hx hb hr (fun t9 ht hW => ⟨⟨0, (), rfl, rfl, trivial⟩, hS.F ht⟩) hS.2.2 dX11_count_162

set_option maxHeartbeats 4000000 in
set_option maxRecDepth 100000 in
theorem c_X11_holds0_0 (l : Launch) (D : va_G) (t : Nat → ClassId) : Met l yX11_holds (wd yX11_holds cX11_holds 2 (some .boolean)) (RM 0 0 0) (PreP D (TY t) [.int 0, .int (nI 0)] []) (QI 0) 0 0 NoF := by
  refine Met.ofW (cc := cX11_holds) (maxL := 2) (ret := (some .boolean)) (by decide) rfl ?_
  intro p e s m args below meth c s₁ B hml hv
  obtain ⟨rfl, hP, hK, hN⟩ := hv
  have hx := B.exec
  have hb := B.bytes
  have hr := B.returns
  have hts : ∀ w ∈ TB, w.before _ s = true := fun w h => atoms_spec (ws := wd yX11_holds cX11_holds 2 (some .boolean)) B.pre w (List.mem_cons_of_mem _ h)
  have hown : s.vm.findClass RX11 = some m.cls := findClass_of_methodNamed B.named
  have hlocks := B.notSynchronized
  have hF : CallFix p m c cX11_holds 2 s _ TB RX11 := ⟨hx, hb, hml, hown, hts⟩
  have hl := lv_entry ([.int 0, .int (nI 0)]) (n := 2) (Nat.le_of_ble_eq_true rfl)
  rw [lg_entry_eq]
  generalize (lg_sl ([.int 0, .int (nI 0)]) ++ List.replicate (2 - (lg_sl ([.int 0, .int (nI 0)])).length) Slot.unset).toArray = ls at hl ⊢
  have hl : lv_has ls 2 [(0, .int 0), (1, .int (nI 0))] := hl
  have hS : va_S NoF s.heap s.heap [] := va_S.rf
  have hP : va_P D classes [] s.heap := hP
  refine lv_iload_n hx hb dX11_holds_0 rfl (lv_at hl 0 rfl) ?_
  refine lv_iload_n hx hb dX11_holds_1 rfl (lv_at hl 1 rfl) ?_
  refine lv_ishr hx hb dX11_holds_2 ?_
  refine x_seti 0 (by decide) ?_
  refine lv_iconst (v := 1) hx hb dX11_holds_3 (by decide) ?_
  refine lv_iand hx hb dX11_holds_4 ?_
  refine x_seti 0 (by decide) ?_
  refine lv_iconst (v := 1) hx hb dX11_holds_5 (by decide) ?_
  refine lv_icmp_ne (tgt := 13) hx hb dX11_holds_6 (by decide) (fun _ => ?_) (fun c9 => absurd c9 (by decide))
  refine lv_iconst (v := 0) hx hb dX11_holds_13 (by decide) ?_
  exact W.zret (v := 0) hx hb hr rfl (fun t9 ht hW => ⟨⟨0, (), rfl, rfl, trivial⟩, hS.F ht⟩) hS.2.2 dX11_holds_14

set_option maxHeartbeats 4000000 in
set_option maxRecDepth 100000 in
theorem c_X11_holds0_1 (l : Launch) (D : va_G) (t : Nat → ClassId) : Met l yX11_holds (wd yX11_holds cX11_holds 2 (some .boolean)) (RM 0 0 0) (PreP D (TY t) [.int 0, .int (nI 1)] []) (QI 0) 0 0 NoF := by
  refine Met.ofW (cc := cX11_holds) (maxL := 2) (ret := (some .boolean)) (by decide) rfl ?_
  intro p e s m args below meth c s₁ B hml hv
  obtain ⟨rfl, hP, hK, hN⟩ := hv
  have hx := B.exec
  have hb := B.bytes
  have hr := B.returns
  have hts : ∀ w ∈ TB, w.before _ s = true := fun w h => atoms_spec (ws := wd yX11_holds cX11_holds 2 (some .boolean)) B.pre w (List.mem_cons_of_mem _ h)
  have hown : s.vm.findClass RX11 = some m.cls := findClass_of_methodNamed B.named
  have hlocks := B.notSynchronized
  have hF : CallFix p m c cX11_holds 2 s _ TB RX11 := ⟨hx, hb, hml, hown, hts⟩
  have hl := lv_entry ([.int 0, .int (nI 1)]) (n := 2) (Nat.le_of_ble_eq_true rfl)
  rw [lg_entry_eq]
  generalize (lg_sl ([.int 0, .int (nI 1)]) ++ List.replicate (2 - (lg_sl ([.int 0, .int (nI 1)])).length) Slot.unset).toArray = ls at hl ⊢
  have hl : lv_has ls 2 [(0, .int 0), (1, .int (nI 1))] := hl
  have hS : va_S NoF s.heap s.heap [] := va_S.rf
  have hP : va_P D classes [] s.heap := hP
  refine lv_iload_n hx hb dX11_holds_0 rfl (lv_at hl 0 rfl) ?_
  refine lv_iload_n hx hb dX11_holds_1 rfl (lv_at hl 1 rfl) ?_
  refine lv_ishr hx hb dX11_holds_2 ?_
  refine x_seti 0 (by decide) ?_
  refine lv_iconst (v := 1) hx hb dX11_holds_3 (by decide) ?_
  refine lv_iand hx hb dX11_holds_4 ?_
  refine x_seti 0 (by decide) ?_
  refine lv_iconst (v := 1) hx hb dX11_holds_5 (by decide) ?_
  refine lv_icmp_ne (tgt := 13) hx hb dX11_holds_6 (by decide) (fun _ => ?_) (fun c9 => absurd c9 (by decide))
  refine lv_iconst (v := 0) hx hb dX11_holds_13 (by decide) ?_
  exact W.zret (v := 0) hx hb hr rfl (fun t9 ht hW => ⟨⟨0, (), rfl, rfl, trivial⟩, hS.F ht⟩) hS.2.2 dX11_holds_14

set_option maxHeartbeats 4000000 in
set_option maxRecDepth 100000 in
theorem c_X11_holds0_2 (l : Launch) (D : va_G) (t : Nat → ClassId) : Met l yX11_holds (wd yX11_holds cX11_holds 2 (some .boolean)) (RM 0 0 0) (PreP D (TY t) [.int 0, .int (nI 2)] []) (QI 0) 0 0 NoF := by
  refine Met.ofW (cc := cX11_holds) (maxL := 2) (ret := (some .boolean)) (by decide) rfl ?_
  intro p e s m args below meth c s₁ B hml hv
  obtain ⟨rfl, hP, hK, hN⟩ := hv
  have hx := B.exec
  have hb := B.bytes
  have hr := B.returns
  have hts : ∀ w ∈ TB, w.before _ s = true := fun w h => atoms_spec (ws := wd yX11_holds cX11_holds 2 (some .boolean)) B.pre w (List.mem_cons_of_mem _ h)
  have hown : s.vm.findClass RX11 = some m.cls := findClass_of_methodNamed B.named
  have hlocks := B.notSynchronized
  have hF : CallFix p m c cX11_holds 2 s _ TB RX11 := ⟨hx, hb, hml, hown, hts⟩
  have hl := lv_entry ([.int 0, .int (nI 2)]) (n := 2) (Nat.le_of_ble_eq_true rfl)
  rw [lg_entry_eq]
  generalize (lg_sl ([.int 0, .int (nI 2)]) ++ List.replicate (2 - (lg_sl ([.int 0, .int (nI 2)])).length) Slot.unset).toArray = ls at hl ⊢
  have hl : lv_has ls 2 [(0, .int 0), (1, .int (nI 2))] := hl
  have hS : va_S NoF s.heap s.heap [] := va_S.rf
  have hP : va_P D classes [] s.heap := hP
  refine lv_iload_n hx hb dX11_holds_0 rfl (lv_at hl 0 rfl) ?_
  refine lv_iload_n hx hb dX11_holds_1 rfl (lv_at hl 1 rfl) ?_
  refine lv_ishr hx hb dX11_holds_2 ?_
  refine x_seti 0 (by decide) ?_
  refine lv_iconst (v := 1) hx hb dX11_holds_3 (by decide) ?_
  refine lv_iand hx hb dX11_holds_4 ?_
  refine x_seti 0 (by decide) ?_
  refine lv_iconst (v := 1) hx hb dX11_holds_5 (by decide) ?_
  refine lv_icmp_ne (tgt := 13) hx hb dX11_holds_6 (by decide) (fun _ => ?_) (fun c9 => absurd c9 (by decide))
  refine lv_iconst (v := 0) hx hb dX11_holds_13 (by decide) ?_
  exact W.zret (v := 0) hx hb hr rfl (fun t9 ht hW => ⟨⟨0, (), rfl, rfl, trivial⟩, hS.F ht⟩) hS.2.2 dX11_holds_14

set_option maxHeartbeats 4000000 in
set_option maxRecDepth 100000 in
theorem c_X11_back (l : Launch) (D : va_G) (t : Nat → ClassId) (a : Nat → Nat) (x : Int32) : Met l yX11_back (wd yX11_back cX11_back 2 (some .int)) (RM 1 0 0) (PreP D (TY t) [.ref (a 0), .int x] [(a 0, .inr (11, [.ref (a 1), .ref (a 20), .ref (a 3), .ref (a 40), .ref (a 4), .int 0, .ref (a 5), .ref (a 14), .ref (a 15), .ref (a 16), .ref (a 17), .ref (a 18)]))]) (QI (sp_back x)) 0 0 NoF := by
  refine Met.ofW (cc := cX11_back) (maxL := 2) (ret := (some .int)) (by decide) rfl ?_
  intro p e s m args below meth c s₁ B hml hv
  obtain ⟨rfl, hP, hK, hN⟩ := hv
  have hx := B.exec
  have hb := B.bytes
  have hr := B.returns
  have hts : ∀ w ∈ TB, w.before _ s = true := fun w h => atoms_spec (ws := wd yX11_back cX11_back 2 (some .int)) B.pre w (List.mem_cons_of_mem _ h)
  have hown : s.vm.findClass RX11 = some m.cls := findClass_of_methodNamed B.named
  have hlocks := B.notSynchronized
  have hF : CallFix p m c cX11_back 2 s _ TB RX11 := ⟨hx, hb, hml, hown, hts⟩
  have hl := lv_entry ([.ref (a 0), .int x]) (n := 2) (Nat.le_of_ble_eq_true rfl)
  rw [lg_entry_eq]
  generalize (lg_sl ([.ref (a 0), .int x]) ++ List.replicate (2 - (lg_sl ([.ref (a 0), .int x])).length) Slot.unset).toArray = ls at hl ⊢
  have hl : lv_has ls 2 [(0, .ref (a 0)), (1, .int x)] := hl
  have hS : va_S NoF s.heap s.heap [] := va_S.rf
  have hP : va_P D classes [(a 0, .inr (11, [.ref (a 1), .ref (a 20), .ref (a 3), .ref (a 40), .ref (a 4), .int 0, .ref (a 5), .ref (a 14), .ref (a 15), .ref (a 16), .ref (a 17), .ref (a 18)]))] s.heap := hP
  refine lv_iload_n hx hb dX11_back_0 rfl (lv_at hl 1 rfl) ?_
  refine lv_if_lt (tgt := 9) hx hb dX11_back_1 (by decide) (fun c_1 => ?_) (fun c_1 => ?_)
  · refine lv_bipush (v := (-2)) hx hb dX11_back_9 (by decide) ?_
    exact W.iret (v := (-2)) hx hb hr (fun t9 ht hW => ⟨⟨(-2), (), rfl, (by unfold sp_back; rw [if_pos (ib0 (lo := 0) (hi := 2) (p := x) (by have q0 := t_lt c_1; have e0 : (0 : Int32).toInt = 0 := (by decide); omega))]), trivial⟩, hS.F ht⟩) hS.2.2 dX11_back_11
  · refine lv_iload_n hx hb dX11_back_4 rfl (lv_at hl 1 rfl) ?_
    refine lv_iconst (v := 3) hx hb dX11_back_5 (by decide) ?_
    refine lv_icmp_lt (tgt := 12) hx hb dX11_back_6 (by decide) (fun c_2 => ?_) (fun c_2 => ?_)
    · obtain ⟨j_3, hj_3, rfl⟩ := ib_nat (n := 3) (ib_n1 (ib1 (lo := 0) (hi := 2) (p := x) (by have q0 := t_nlt c_1; have e0 : (0 : Int32).toInt = 0 := (by decide); have q1 := t_lt c_2; have e1 : (3 : Int32).toInt = 3 := (by decide); omega))) (by decide)
      obtain rfl | rfl | rfl : j_3 = 0 ∨ j_3 = 1 ∨ j_3 = 2 := by omega
      · refine lv_aload_n hx hb dX11_back_12 rfl (lv_at hl 0 rfl) ?_
        refine va_get (D := D) (ci := 11) (v := .int 0) (C := RX11) (T := TX11) (N := 12) hx hb hts iX11 hown hK hP 0 rfl rfl 5 (by decide) (hts _ m_438) (fun _ h9 => h9) rfl dX11_back_13 ?_
        refine lv_iload_n hx hb dX11_back_16 rfl (lv_at hl 1 rfl) ?_
        refine x_pS hF (c_X11_holds0_0 l D t) m_706 m_707 m_1 m_708 hd_X11_holds ⟨Nat.le_of_ble_eq_true rfl, Nat.le_of_ble_eq_true rfl⟩ hK hN hP hS [] rfl hl.1 rfl (Nat.le_of_ble_eq_true rfl) dX11_back_17 ⟨Nat.zero_le _, Nat.zero_le _⟩ (fun H locs hP hS => ?_)
        refine lv_if_ne (tgt := 26) hx hb dX11_back_20 (by decide) (fun c9 => absurd c9 (by decide)) (fun _ => ?_)
        refine lv_bipush (v := (-6)) hx hb dX11_back_23 (by decide) ?_
        exact W.iret (v := (-6)) hx hb hr (fun t9 ht hW => ⟨⟨(-6), (), rfl, rfl, trivial⟩, hS.F ht⟩) hS.2.2 dX11_back_25
      · refine lv_aload_n hx hb dX11_back_12 rfl (lv_at hl 0 rfl) ?_
        refine va_get (D := D) (ci := 11) (v := .int 0) (C := RX11) (T := TX11) (N := 12) hx hb hts iX11 hown hK hP 0 rfl rfl 5 (by decide) (hts _ m_438) (fun _ h9 => h9) rfl dX11_back_13 ?_
        refine lv_iload_n hx hb dX11_back_16 rfl (lv_at hl 1 rfl) ?_
        refine x_pS hF (c_X11_holds0_1 l D t) m_706 m_707 m_1 m_708 hd_X11_holds ⟨Nat.le_of_ble_eq_true rfl, Nat.le_of_ble_eq_true rfl⟩ hK hN hP hS [] rfl hl.1 rfl (Nat.le_of_ble_eq_true rfl) dX11_back_17 ⟨Nat.zero_le _, Nat.zero_le _⟩ (fun H locs hP hS => ?_)
        refine lv_if_ne (tgt := 26) hx hb dX11_back_20 (by decide) (fun c9 => absurd c9 (by decide)) (fun _ => ?_)
        refine lv_bipush (v := (-6)) hx hb dX11_back_23 (by decide) ?_
        exact W.iret (v := (-6)) hx hb hr (fun t9 ht hW => ⟨⟨(-6), (), rfl, rfl, trivial⟩, hS.F ht⟩) hS.2.2 dX11_back_25
      · refine lv_aload_n hx hb dX11_back_12 rfl (lv_at hl 0 rfl) ?_
        refine va_get (D := D) (ci := 11) (v := .int 0) (C := RX11) (T := TX11) (N := 12) hx hb hts iX11 hown hK hP 0 rfl rfl 5 (by decide) (hts _ m_438) (fun _ h9 => h9) rfl dX11_back_13 ?_
        refine lv_iload_n hx hb dX11_back_16 rfl (lv_at hl 1 rfl) ?_
        refine x_pS hF (c_X11_holds0_2 l D t) m_706 m_707 m_1 m_708 hd_X11_holds ⟨Nat.le_of_ble_eq_true rfl, Nat.le_of_ble_eq_true rfl⟩ hK hN hP hS [] rfl hl.1 rfl (Nat.le_of_ble_eq_true rfl) dX11_back_17 ⟨Nat.zero_le _, Nat.zero_le _⟩ (fun H locs hP hS => ?_)
        refine lv_if_ne (tgt := 26) hx hb dX11_back_20 (by decide) (fun c9 => absurd c9 (by decide)) (fun _ => ?_)
        refine lv_bipush (v := (-6)) hx hb dX11_back_23 (by decide) ?_
        exact W.iret (v := (-6)) hx hb hr (fun t9 ht hW => ⟨⟨(-6), (), rfl, rfl, trivial⟩, hS.F ht⟩) hS.2.2 dX11_back_25
    · refine lv_bipush (v := (-2)) hx hb dX11_back_9 (by decide) ?_
      exact W.iret (v := (-2)) hx hb hr (fun t9 ht hW => ⟨⟨(-2), (), rfl, (by unfold sp_back; rw [if_pos (ib0 (lo := 0) (hi := 2) (p := x) (by have q0 := t_nlt c_1; have e0 : (0 : Int32).toInt = 0 := (by decide); have q1 := t_nlt c_2; have e1 : (3 : Int32).toInt = 3 := (by decide); omega))]), trivial⟩, hS.F ht⟩) hS.2.2 dX11_back_11

set_option maxHeartbeats 4000000 in
set_option maxRecDepth 100000 in
theorem c_X11_write (l : Launch) (D : va_G) (t : Nat → ClassId) (a : Nat → Nat) (x : Int32) (y : Int32) (z : Int64) : Met l yX11_write (wd yX11_write cX11_write 5 (some .int)) (RM 1 0 0) (PreP D (TY t) [.ref (a 0), .int x, .int y, .long z] [(a 0, .inr (11, [.ref (a 1), .ref (a 20), .ref (a 3), .ref (a 40), .ref (a 4), .int 0, .ref (a 5), .ref (a 14), .ref (a 15), .ref (a 16), .ref (a 17), .ref (a 18)])), (a 5, .inl (t 5, 4, .inr (.inr (.inr (.inr (va_up (va_up (va_up (va_up (fun _ => none) 0 (some (a 6))) 1 (some (a 7))) 2 (some (a 8))) 3 (some (a 9)))))))), (a 6, .inr (6, [.ref (a 10), .int (-1), .int 0])), (a 7, .inr (6, [.ref (a 11), .int (-1), .int 0])), (a 8, .inr (6, [.ref (a 12), .int (-1), .int 0])), (a 9, .inr (6, [.ref (a 13), .int (-1), .int 0]))]) (QI (sp_write x)) 0 0 NoF := by
  refine Met.ofW (cc := cX11_write) (maxL := 5) (ret := (some .int)) (by decide) rfl ?_
  intro p e s m args below meth c s₁ B hml hv
  obtain ⟨rfl, hP, hK, hN⟩ := hv
  have hx := B.exec
  have hb := B.bytes
  have hr := B.returns
  have hts : ∀ w ∈ TB, w.before _ s = true := fun w h => atoms_spec (ws := wd yX11_write cX11_write 5 (some .int)) B.pre w (List.mem_cons_of_mem _ h)
  have hown : s.vm.findClass RX11 = some m.cls := findClass_of_methodNamed B.named
  have hlocks := B.notSynchronized
  have hF : CallFix p m c cX11_write 5 s _ TB RX11 := ⟨hx, hb, hml, hown, hts⟩
  have hl := lv_entry ([.ref (a 0), .int x, .int y, .long z]) (n := 5) (Nat.le_of_ble_eq_true rfl)
  rw [lg_entry_eq]
  generalize (lg_sl ([.ref (a 0), .int x, .int y, .long z]) ++ List.replicate (5 - (lg_sl ([.ref (a 0), .int x, .int y, .long z])).length) Slot.unset).toArray = ls at hl ⊢
  have hl : lv_has ls 5 [(0, .ref (a 0)), (1, .int x), (2, .int y), (3, .long z)] := hl
  have hS : va_S NoF s.heap s.heap [] := va_S.rf
  have hP : va_P D classes [(a 0, .inr (11, [.ref (a 1), .ref (a 20), .ref (a 3), .ref (a 40), .ref (a 4), .int 0, .ref (a 5), .ref (a 14), .ref (a 15), .ref (a 16), .ref (a 17), .ref (a 18)])), (a 5, .inl (t 5, 4, .inr (.inr (.inr (.inr (va_up (va_up (va_up (va_up (fun _ => none) 0 (some (a 6))) 1 (some (a 7))) 2 (some (a 8))) 3 (some (a 9)))))))), (a 6, .inr (6, [.ref (a 10), .int (-1), .int 0])), (a 7, .inr (6, [.ref (a 11), .int (-1), .int 0])), (a 8, .inr (6, [.ref (a 12), .int (-1), .int 0])), (a 9, .inr (6, [.ref (a 13), .int (-1), .int 0]))] s.heap := hP
  refine lv_iload_n hx hb dX11_write_0 rfl (lv_at hl 1 rfl) ?_
  refine x_pS hF (c_X11_isSlot l D t x) m_1220 m_1221 m_1 m_1222 hd_X11_isSlot ⟨Nat.le_of_ble_eq_true rfl, Nat.le_of_ble_eq_true rfl⟩ hK hN hP hS [] rfl hl.1 rfl (Nat.le_of_ble_eq_true rfl) dX11_write_1 ⟨Nat.zero_le _, Nat.zero_le _⟩ (fun H locs hP hS => ?_)
  refine lv_if_ne (tgt := 10) hx hb dX11_write_4 (by decide) (fun c_1 => ?_) (fun c_1 => ?_)
  · obtain ⟨j_2, hj_2, rfl⟩ := ib_nat (n := 4) c_1 (by decide)
    obtain rfl | rfl | rfl | rfl : j_2 = 0 ∨ j_2 = 1 ∨ j_2 = 2 ∨ j_2 = 3 := by omega
    · refine lv_aload_n hx hb dX11_write_10 rfl (lv_at hl 0 rfl) ?_
      refine va_get (D := D) (ci := 11) (v := .ref (a 5)) (C := RX11) (T := TX11) (N := 12) hx hb hts iX11 hown hK hP 0 rfl rfl 6 (by decide) (hts _ m_439) (fun _ h9 => h9) rfl dX11_write_11 ?_
      refine lv_iload_n hx hb dX11_write_14 rfl (lv_at hl 1 rfl) ?_
      refine va_aldq hx hb hK hP 1 5 rfl rfl (vp_in_nI (n := 0) (by decide) (by decide)) dX11_write_15 ?_
      refine W.eq (g2 := F0 m 16 ls [.ref (a 6)]) rfl ?_
      refine x_pV hF (c_X6_isNothing0 l D t a) m_1223 m_1224 m_1225 m_12 m_1226 hd_X6_isNothing ⟨Nat.le_of_ble_eq_true rfl, Nat.le_of_ble_eq_true rfl⟩ hK hN hP hS [2] rfl 0 (ci := 6) rfl rfl rfl hl.1 rfl (Nat.le_of_ble_eq_true rfl) dX11_write_16 ⟨Nat.zero_le _, Nat.zero_le _⟩ (fun H locs hP hS => ?_)
      refine lv_if_eq (tgt := 25) hx hb dX11_write_19 (by decide) (fun c9 => absurd c9 (by decide)) (fun _ => ?_)
      refine lv_bipush (v := (-6)) hx hb dX11_write_22 (by decide) ?_
      exact W.iret (v := (-6)) hx hb hr (fun t9 ht hW => ⟨⟨(-6), (), rfl, rfl, trivial⟩, hS.F ht⟩) hS.2.2 dX11_write_24
    · refine lv_aload_n hx hb dX11_write_10 rfl (lv_at hl 0 rfl) ?_
      refine va_get (D := D) (ci := 11) (v := .ref (a 5)) (C := RX11) (T := TX11) (N := 12) hx hb hts iX11 hown hK hP 0 rfl rfl 6 (by decide) (hts _ m_439) (fun _ h9 => h9) rfl dX11_write_11 ?_
      refine lv_iload_n hx hb dX11_write_14 rfl (lv_at hl 1 rfl) ?_
      refine va_aldq hx hb hK hP 1 5 rfl rfl (vp_in_nI (n := 1) (by decide) (by decide)) dX11_write_15 ?_
      refine W.eq (g2 := F0 m 16 ls [.ref (a 7)]) rfl ?_
      refine x_pV hF (c_X6_isNothing1 l D t a) m_1223 m_1224 m_1225 m_12 m_1226 hd_X6_isNothing ⟨Nat.le_of_ble_eq_true rfl, Nat.le_of_ble_eq_true rfl⟩ hK hN hP hS [3] rfl 0 (ci := 6) rfl rfl rfl hl.1 rfl (Nat.le_of_ble_eq_true rfl) dX11_write_16 ⟨Nat.zero_le _, Nat.zero_le _⟩ (fun H locs hP hS => ?_)
      refine lv_if_eq (tgt := 25) hx hb dX11_write_19 (by decide) (fun c9 => absurd c9 (by decide)) (fun _ => ?_)
      refine lv_bipush (v := (-6)) hx hb dX11_write_22 (by decide) ?_
      exact W.iret (v := (-6)) hx hb hr (fun t9 ht hW => ⟨⟨(-6), (), rfl, rfl, trivial⟩, hS.F ht⟩) hS.2.2 dX11_write_24
    · refine lv_aload_n hx hb dX11_write_10 rfl (lv_at hl 0 rfl) ?_
      refine va_get (D := D) (ci := 11) (v := .ref (a 5)) (C := RX11) (T := TX11) (N := 12) hx hb hts iX11 hown hK hP 0 rfl rfl 6 (by decide) (hts _ m_439) (fun _ h9 => h9) rfl dX11_write_11 ?_
      refine lv_iload_n hx hb dX11_write_14 rfl (lv_at hl 1 rfl) ?_
      refine va_aldq hx hb hK hP 1 5 rfl rfl (vp_in_nI (n := 2) (by decide) (by decide)) dX11_write_15 ?_
      refine W.eq (g2 := F0 m 16 ls [.ref (a 8)]) rfl ?_
      refine x_pV hF (c_X6_isNothing2 l D t a) m_1223 m_1224 m_1225 m_12 m_1226 hd_X6_isNothing ⟨Nat.le_of_ble_eq_true rfl, Nat.le_of_ble_eq_true rfl⟩ hK hN hP hS [4] rfl 0 (ci := 6) rfl rfl rfl hl.1 rfl (Nat.le_of_ble_eq_true rfl) dX11_write_16 ⟨Nat.zero_le _, Nat.zero_le _⟩ (fun H locs hP hS => ?_)
      refine lv_if_eq (tgt := 25) hx hb dX11_write_19 (by decide) (fun c9 => absurd c9 (by decide)) (fun _ => ?_)
      refine lv_bipush (v := (-6)) hx hb dX11_write_22 (by decide) ?_
      exact W.iret (v := (-6)) hx hb hr (fun t9 ht hW => ⟨⟨(-6), (), rfl, rfl, trivial⟩, hS.F ht⟩) hS.2.2 dX11_write_24
    · refine lv_aload_n hx hb dX11_write_10 rfl (lv_at hl 0 rfl) ?_
      refine va_get (D := D) (ci := 11) (v := .ref (a 5)) (C := RX11) (T := TX11) (N := 12) hx hb hts iX11 hown hK hP 0 rfl rfl 6 (by decide) (hts _ m_439) (fun _ h9 => h9) rfl dX11_write_11 ?_
      refine lv_iload_n hx hb dX11_write_14 rfl (lv_at hl 1 rfl) ?_
      refine va_aldq hx hb hK hP 1 5 rfl rfl (vp_in_nI (n := 3) (by decide) (by decide)) dX11_write_15 ?_
      refine W.eq (g2 := F0 m 16 ls [.ref (a 9)]) rfl ?_
      refine x_pV hF (c_X6_isNothing3 l D t a) m_1223 m_1224 m_1225 m_12 m_1226 hd_X6_isNothing ⟨Nat.le_of_ble_eq_true rfl, Nat.le_of_ble_eq_true rfl⟩ hK hN hP hS [5] rfl 0 (ci := 6) rfl rfl rfl hl.1 rfl (Nat.le_of_ble_eq_true rfl) dX11_write_16 ⟨Nat.zero_le _, Nat.zero_le _⟩ (fun H locs hP hS => ?_)
      refine lv_if_eq (tgt := 25) hx hb dX11_write_19 (by decide) (fun c9 => absurd c9 (by decide)) (fun _ => ?_)
      refine lv_bipush (v := (-6)) hx hb dX11_write_22 (by decide) ?_
      exact W.iret (v := (-6)) hx hb hr (fun t9 ht hW => ⟨⟨(-6), (), rfl, rfl, trivial⟩, hS.F ht⟩) hS.2.2 dX11_write_24
  · refine lv_bipush (v := (-2)) hx hb dX11_write_7 (by decide) ?_
    exact W.iret (v := (-2)) hx hb hr (fun t9 ht hW => ⟨⟨(-2), (), rfl, (by unfold sp_write; rw [if_pos c_1]), trivial⟩, hS.F ht⟩) hS.2.2 dX11_write_9

set_option maxHeartbeats 4000000 in
set_option maxRecDepth 100000 in
theorem c_X11_paste (l : Launch) (D : va_G) (t : Nat → ClassId) (a : Nat → Nat) (x : Int32) (y : Int32) (z : Int32) (v : Int32) (w : Int32) : Met l yX11_paste (wd yX11_paste cX11_paste 8 (some .int)) (RM 1 0 0) (PreP D (TY t) [.ref (a 0), .int x, .int y, .int z, .int v, .int w] [(a 0, .inr (11, [.ref (a 1), .ref (a 20), .ref (a 3), .ref (a 40), .ref (a 4), .int 0, .ref (a 5), .ref (a 14), .ref (a 15), .ref (a 16), .ref (a 17), .ref (a 18)])), (a 5, .inl (t 5, 4, .inr (.inr (.inr (.inr (va_up (va_up (va_up (va_up (fun _ => none) 0 (some (a 6))) 1 (some (a 7))) 2 (some (a 8))) 3 (some (a 9)))))))), (a 6, .inr (6, [.ref (a 10), .int (-1), .int 0])), (a 7, .inr (6, [.ref (a 11), .int (-1), .int 0])), (a 8, .inr (6, [.ref (a 12), .int (-1), .int 0])), (a 9, .inr (6, [.ref (a 13), .int (-1), .int 0]))]) (QI (sp_paste x z)) 0 0 NoF := by
  refine Met.ofW (cc := cX11_paste) (maxL := 8) (ret := (some .int)) (by decide) rfl ?_
  intro p e s m args below meth c s₁ B hml hv
  obtain ⟨rfl, hP, hK, hN⟩ := hv
  have hx := B.exec
  have hb := B.bytes
  have hr := B.returns
  have hts : ∀ w ∈ TB, w.before _ s = true := fun w h => atoms_spec (ws := wd yX11_paste cX11_paste 8 (some .int)) B.pre w (List.mem_cons_of_mem _ h)
  have hown : s.vm.findClass RX11 = some m.cls := findClass_of_methodNamed B.named
  have hlocks := B.notSynchronized
  have hF : CallFix p m c cX11_paste 8 s _ TB RX11 := ⟨hx, hb, hml, hown, hts⟩
  have hl := lv_entry ([.ref (a 0), .int x, .int y, .int z, .int v, .int w]) (n := 8) (Nat.le_of_ble_eq_true rfl)
  rw [lg_entry_eq]
  generalize (lg_sl ([.ref (a 0), .int x, .int y, .int z, .int v, .int w]) ++ List.replicate (8 - (lg_sl ([.ref (a 0), .int x, .int y, .int z, .int v, .int w])).length) Slot.unset).toArray = ls at hl ⊢
  have hl : lv_has ls 8 [(0, .ref (a 0)), (1, .int x), (2, .int y), (3, .int z), (4, .int v), (5, .int w)] := hl
  have hS : va_S NoF s.heap s.heap [] := va_S.rf
  have hP : va_P D classes [(a 0, .inr (11, [.ref (a 1), .ref (a 20), .ref (a 3), .ref (a 40), .ref (a 4), .int 0, .ref (a 5), .ref (a 14), .ref (a 15), .ref (a 16), .ref (a 17), .ref (a 18)])), (a 5, .inl (t 5, 4, .inr (.inr (.inr (.inr (va_up (va_up (va_up (va_up (fun _ => none) 0 (some (a 6))) 1 (some (a 7))) 2 (some (a 8))) 3 (some (a 9)))))))), (a 6, .inr (6, [.ref (a 10), .int (-1), .int 0])), (a 7, .inr (6, [.ref (a 11), .int (-1), .int 0])), (a 8, .inr (6, [.ref (a 12), .int (-1), .int 0])), (a 9, .inr (6, [.ref (a 13), .int (-1), .int 0]))] s.heap := hP
  refine lv_iload_n hx hb dX11_paste_0 rfl (lv_at hl 1 rfl) ?_
  refine x_pS hF (c_X11_isSlot l D t x) m_1220 m_1221 m_1 m_1222 hd_X11_isSlot ⟨Nat.le_of_ble_eq_true rfl, Nat.le_of_ble_eq_true rfl⟩ hK hN hP hS [] rfl hl.1 rfl (Nat.le_of_ble_eq_true rfl) dX11_paste_1 ⟨Nat.zero_le _, Nat.zero_le _⟩ (fun H locs hP hS => ?_)
  refine lv_if_eq (tgt := 14) hx hb dX11_paste_4 (by decide) (fun c_1 => ?_) (fun c_1 => ?_)
  · refine lv_bipush (v := (-2)) hx hb dX11_paste_14 (by decide) ?_
    exact W.iret (v := (-2)) hx hb hr (fun t9 ht hW => ⟨⟨(-2), (), rfl, (by unfold sp_paste; rw [if_pos c_1]), trivial⟩, hS.F ht⟩) hS.2.2 dX11_paste_16
  · refine lv_iload_n hx hb dX11_paste_7 rfl (lv_at hl 3 rfl) ?_
    refine x_pS hF (c_X11_isSlot l D t z) m_1220 m_1221 m_1 m_1222 hd_X11_isSlot ⟨Nat.le_of_ble_eq_true rfl, Nat.le_of_ble_eq_true rfl⟩ hK hN hP hS [] rfl hl.1 rfl (Nat.le_of_ble_eq_true rfl) dX11_paste_8 ⟨Nat.zero_le _, Nat.zero_le _⟩ (fun H locs hP hS => ?_)
    refine lv_if_ne (tgt := 17) hx hb dX11_paste_11 (by decide) (fun c_2 => ?_) (fun c_2 => ?_)
    · obtain ⟨j_3, hj_3, rfl⟩ := ib_nat (n := 4) c_1 (by decide)
      obtain rfl | rfl | rfl | rfl : j_3 = 0 ∨ j_3 = 1 ∨ j_3 = 2 ∨ j_3 = 3 := by omega
      · obtain ⟨j_4, hj_4, rfl⟩ := ib_nat (n := 4) c_2 (by decide)
        obtain rfl | rfl | rfl | rfl : j_4 = 0 ∨ j_4 = 1 ∨ j_4 = 2 ∨ j_4 = 3 := by omega
        · refine lv_aload_n hx hb dX11_paste_17 rfl (lv_at hl 0 rfl) ?_
          refine va_get (D := D) (ci := 11) (v := .ref (a 5)) (C := RX11) (T := TX11) (N := 12) hx hb hts iX11 hown hK hP 0 rfl rfl 6 (by decide) (hts _ m_439) (fun _ h9 => h9) rfl dX11_paste_18 ?_
          refine lv_iload_n hx hb dX11_paste_21 rfl (lv_at hl 1 rfl) ?_
          refine va_aldq hx hb hK hP 1 5 rfl rfl (vp_in_nI (n := 0) (by decide) (by decide)) dX11_paste_22 ?_
          refine W.eq (g2 := F0 m 23 ls [.ref (a 6)]) rfl ?_
          refine lv_astore (lv' := [(6, .ref (a 6)), (0, .ref (a 0)), (1, .int (nI 0)), (2, .int y), (3, .int (nI 0)), (4, .int v), (5, .int w)]) hx hb dX11_paste_23 hl (by decide) rfl (fun ls hl => ?_)
          refine lv_aload_n hx hb dX11_paste_25 rfl (lv_at hl 1 rfl) ?_
          refine va_get (D := D) (ci := 11) (v := .ref (a 5)) (C := RX11) (T := TX11) (N := 12) hx hb hts iX11 hown hK hP 0 rfl rfl 6 (by decide) (hts _ m_439) (fun _ h9 => h9) rfl dX11_paste_26 ?_
          refine lv_iload_n hx hb dX11_paste_29 rfl (lv_at hl 4 rfl) ?_
          refine va_aldq hx hb hK hP 1 5 rfl rfl (vp_in_nI (n := 0) (by decide) (by decide)) dX11_paste_30 ?_
          refine W.eq (g2 := F0 m 31 ls [.ref (a 6)]) rfl ?_
          refine lv_astore (lv' := [(7, .ref (a 6)), (6, .ref (a 6)), (0, .ref (a 0)), (1, .int (nI 0)), (2, .int y), (3, .int (nI 0)), (4, .int v), (5, .int w)]) hx hb dX11_paste_31 hl (by decide) rfl (fun ls hl => ?_)
          refine lv_aload hx hb dX11_paste_33 (lv_at hl 1 rfl) ?_
          refine x_pV hF (c_X6_isNothing0 l D t a) m_1223 m_1224 m_1225 m_12 m_1226 hd_X6_isNothing ⟨Nat.le_of_ble_eq_true rfl, Nat.le_of_ble_eq_true rfl⟩ hK hN hP hS [2] rfl 0 (ci := 6) rfl rfl rfl hl.1 rfl (Nat.le_of_ble_eq_true rfl) dX11_paste_35 ⟨Nat.zero_le _, Nat.zero_le _⟩ (fun H locs hP hS => ?_)
          refine lv_if_ne (tgt := 49) hx hb dX11_paste_38 (by decide) (fun _ => ?_) (fun c9 => absurd c9 (by decide))
          refine lv_bipush (v := (-6)) hx hb dX11_paste_49 (by decide) ?_
          exact W.iret (v := (-6)) hx hb hr (fun t9 ht hW => ⟨⟨(-6), (), rfl, rfl, trivial⟩, hS.F ht⟩) hS.2.2 dX11_paste_51
        · refine lv_aload_n hx hb dX11_paste_17 rfl (lv_at hl 0 rfl) ?_
          refine va_get (D := D) (ci := 11) (v := .ref (a 5)) (C := RX11) (T := TX11) (N := 12) hx hb hts iX11 hown hK hP 0 rfl rfl 6 (by decide) (hts _ m_439) (fun _ h9 => h9) rfl dX11_paste_18 ?_
          refine lv_iload_n hx hb dX11_paste_21 rfl (lv_at hl 1 rfl) ?_
          refine va_aldq hx hb hK hP 1 5 rfl rfl (vp_in_nI (n := 0) (by decide) (by decide)) dX11_paste_22 ?_
          refine W.eq (g2 := F0 m 23 ls [.ref (a 6)]) rfl ?_
          refine lv_astore (lv' := [(6, .ref (a 6)), (0, .ref (a 0)), (1, .int (nI 0)), (2, .int y), (3, .int (nI 1)), (4, .int v), (5, .int w)]) hx hb dX11_paste_23 hl (by decide) rfl (fun ls hl => ?_)
          refine lv_aload_n hx hb dX11_paste_25 rfl (lv_at hl 1 rfl) ?_
          refine va_get (D := D) (ci := 11) (v := .ref (a 5)) (C := RX11) (T := TX11) (N := 12) hx hb hts iX11 hown hK hP 0 rfl rfl 6 (by decide) (hts _ m_439) (fun _ h9 => h9) rfl dX11_paste_26 ?_
          refine lv_iload_n hx hb dX11_paste_29 rfl (lv_at hl 4 rfl) ?_
          refine va_aldq hx hb hK hP 1 5 rfl rfl (vp_in_nI (n := 1) (by decide) (by decide)) dX11_paste_30 ?_
          refine W.eq (g2 := F0 m 31 ls [.ref (a 7)]) rfl ?_
          refine lv_astore (lv' := [(7, .ref (a 7)), (6, .ref (a 6)), (0, .ref (a 0)), (1, .int (nI 0)), (2, .int y), (3, .int (nI 1)), (4, .int v), (5, .int w)]) hx hb dX11_paste_31 hl (by decide) rfl (fun ls hl => ?_)
          refine lv_aload hx hb dX11_paste_33 (lv_at hl 1 rfl) ?_
          refine x_pV hF (c_X6_isNothing0 l D t a) m_1223 m_1224 m_1225 m_12 m_1226 hd_X6_isNothing ⟨Nat.le_of_ble_eq_true rfl, Nat.le_of_ble_eq_true rfl⟩ hK hN hP hS [2] rfl 0 (ci := 6) rfl rfl rfl hl.1 rfl (Nat.le_of_ble_eq_true rfl) dX11_paste_35 ⟨Nat.zero_le _, Nat.zero_le _⟩ (fun H locs hP hS => ?_)
          refine lv_if_ne (tgt := 49) hx hb dX11_paste_38 (by decide) (fun _ => ?_) (fun c9 => absurd c9 (by decide))
          refine lv_bipush (v := (-6)) hx hb dX11_paste_49 (by decide) ?_
          exact W.iret (v := (-6)) hx hb hr (fun t9 ht hW => ⟨⟨(-6), (), rfl, rfl, trivial⟩, hS.F ht⟩) hS.2.2 dX11_paste_51
        · refine lv_aload_n hx hb dX11_paste_17 rfl (lv_at hl 0 rfl) ?_
          refine va_get (D := D) (ci := 11) (v := .ref (a 5)) (C := RX11) (T := TX11) (N := 12) hx hb hts iX11 hown hK hP 0 rfl rfl 6 (by decide) (hts _ m_439) (fun _ h9 => h9) rfl dX11_paste_18 ?_
          refine lv_iload_n hx hb dX11_paste_21 rfl (lv_at hl 1 rfl) ?_
          refine va_aldq hx hb hK hP 1 5 rfl rfl (vp_in_nI (n := 0) (by decide) (by decide)) dX11_paste_22 ?_
          refine W.eq (g2 := F0 m 23 ls [.ref (a 6)]) rfl ?_
          refine lv_astore (lv' := [(6, .ref (a 6)), (0, .ref (a 0)), (1, .int (nI 0)), (2, .int y), (3, .int (nI 2)), (4, .int v), (5, .int w)]) hx hb dX11_paste_23 hl (by decide) rfl (fun ls hl => ?_)
          refine lv_aload_n hx hb dX11_paste_25 rfl (lv_at hl 1 rfl) ?_
          refine va_get (D := D) (ci := 11) (v := .ref (a 5)) (C := RX11) (T := TX11) (N := 12) hx hb hts iX11 hown hK hP 0 rfl rfl 6 (by decide) (hts _ m_439) (fun _ h9 => h9) rfl dX11_paste_26 ?_
          refine lv_iload_n hx hb dX11_paste_29 rfl (lv_at hl 4 rfl) ?_
          refine va_aldq hx hb hK hP 1 5 rfl rfl (vp_in_nI (n := 2) (by decide) (by decide)) dX11_paste_30 ?_
          refine W.eq (g2 := F0 m 31 ls [.ref (a 8)]) rfl ?_
          refine lv_astore (lv' := [(7, .ref (a 8)), (6, .ref (a 6)), (0, .ref (a 0)), (1, .int (nI 0)), (2, .int y), (3, .int (nI 2)), (4, .int v), (5, .int w)]) hx hb dX11_paste_31 hl (by decide) rfl (fun ls hl => ?_)
          refine lv_aload hx hb dX11_paste_33 (lv_at hl 1 rfl) ?_
          refine x_pV hF (c_X6_isNothing0 l D t a) m_1223 m_1224 m_1225 m_12 m_1226 hd_X6_isNothing ⟨Nat.le_of_ble_eq_true rfl, Nat.le_of_ble_eq_true rfl⟩ hK hN hP hS [2] rfl 0 (ci := 6) rfl rfl rfl hl.1 rfl (Nat.le_of_ble_eq_true rfl) dX11_paste_35 ⟨Nat.zero_le _, Nat.zero_le _⟩ (fun H locs hP hS => ?_)
          refine lv_if_ne (tgt := 49) hx hb dX11_paste_38 (by decide) (fun _ => ?_) (fun c9 => absurd c9 (by decide))
          refine lv_bipush (v := (-6)) hx hb dX11_paste_49 (by decide) ?_
          exact W.iret (v := (-6)) hx hb hr (fun t9 ht hW => ⟨⟨(-6), (), rfl, rfl, trivial⟩, hS.F ht⟩) hS.2.2 dX11_paste_51
        · refine lv_aload_n hx hb dX11_paste_17 rfl (lv_at hl 0 rfl) ?_
          refine va_get (D := D) (ci := 11) (v := .ref (a 5)) (C := RX11) (T := TX11) (N := 12) hx hb hts iX11 hown hK hP 0 rfl rfl 6 (by decide) (hts _ m_439) (fun _ h9 => h9) rfl dX11_paste_18 ?_
          refine lv_iload_n hx hb dX11_paste_21 rfl (lv_at hl 1 rfl) ?_
          refine va_aldq hx hb hK hP 1 5 rfl rfl (vp_in_nI (n := 0) (by decide) (by decide)) dX11_paste_22 ?_
          refine W.eq (g2 := F0 m 23 ls [.ref (a 6)]) rfl ?_
          refine lv_astore (lv' := [(6, .ref (a 6)), (0, .ref (a 0)), (1, .int (nI 0)), (2, .int y), (3, .int (nI 3)), (4, .int v), (5, .int w)]) hx hb dX11_paste_23 hl (by decide) rfl (fun ls hl => ?_)
          refine lv_aload_n hx hb dX11_paste_25 rfl (lv_at hl 1 rfl) ?_
          refine va_get (D := D) (ci := 11) (v := .ref (a 5)) (C := RX11) (T := TX11) (N := 12) hx hb hts iX11 hown hK hP 0 rfl rfl 6 (by decide) (hts _ m_439) (fun _ h9 => h9) rfl dX11_paste_26 ?_
          refine lv_iload_n hx hb dX11_paste_29 rfl (lv_at hl 4 rfl) ?_
          refine va_aldq hx hb hK hP 1 5 rfl rfl (vp_in_nI (n := 3) (by decide) (by decide)) dX11_paste_30 ?_
          refine W.eq (g2 := F0 m 31 ls [.ref (a 9)]) rfl ?_
          refine lv_astore (lv' := [(7, .ref (a 9)), (6, .ref (a 6)), (0, .ref (a 0)), (1, .int (nI 0)), (2, .int y), (3, .int (nI 3)), (4, .int v), (5, .int w)]) hx hb dX11_paste_31 hl (by decide) rfl (fun ls hl => ?_)
          refine lv_aload hx hb dX11_paste_33 (lv_at hl 1 rfl) ?_
          refine x_pV hF (c_X6_isNothing0 l D t a) m_1223 m_1224 m_1225 m_12 m_1226 hd_X6_isNothing ⟨Nat.le_of_ble_eq_true rfl, Nat.le_of_ble_eq_true rfl⟩ hK hN hP hS [2] rfl 0 (ci := 6) rfl rfl rfl hl.1 rfl (Nat.le_of_ble_eq_true rfl) dX11_paste_35 ⟨Nat.zero_le _, Nat.zero_le _⟩ (fun H locs hP hS => ?_)
          refine lv_if_ne (tgt := 49) hx hb dX11_paste_38 (by decide) (fun _ => ?_) (fun c9 => absurd c9 (by decide))
          refine lv_bipush (v := (-6)) hx hb dX11_paste_49 (by decide) ?_
          exact W.iret (v := (-6)) hx hb hr (fun t9 ht hW => ⟨⟨(-6), (), rfl, rfl, trivial⟩, hS.F ht⟩) hS.2.2 dX11_paste_51
      · obtain ⟨j_5, hj_5, rfl⟩ := ib_nat (n := 4) c_2 (by decide)
        obtain rfl | rfl | rfl | rfl : j_5 = 0 ∨ j_5 = 1 ∨ j_5 = 2 ∨ j_5 = 3 := by omega
        · refine lv_aload_n hx hb dX11_paste_17 rfl (lv_at hl 0 rfl) ?_
          refine va_get (D := D) (ci := 11) (v := .ref (a 5)) (C := RX11) (T := TX11) (N := 12) hx hb hts iX11 hown hK hP 0 rfl rfl 6 (by decide) (hts _ m_439) (fun _ h9 => h9) rfl dX11_paste_18 ?_
          refine lv_iload_n hx hb dX11_paste_21 rfl (lv_at hl 1 rfl) ?_
          refine va_aldq hx hb hK hP 1 5 rfl rfl (vp_in_nI (n := 1) (by decide) (by decide)) dX11_paste_22 ?_
          refine W.eq (g2 := F0 m 23 ls [.ref (a 7)]) rfl ?_
          refine lv_astore (lv' := [(6, .ref (a 7)), (0, .ref (a 0)), (1, .int (nI 1)), (2, .int y), (3, .int (nI 0)), (4, .int v), (5, .int w)]) hx hb dX11_paste_23 hl (by decide) rfl (fun ls hl => ?_)
          refine lv_aload_n hx hb dX11_paste_25 rfl (lv_at hl 1 rfl) ?_
          refine va_get (D := D) (ci := 11) (v := .ref (a 5)) (C := RX11) (T := TX11) (N := 12) hx hb hts iX11 hown hK hP 0 rfl rfl 6 (by decide) (hts _ m_439) (fun _ h9 => h9) rfl dX11_paste_26 ?_
          refine lv_iload_n hx hb dX11_paste_29 rfl (lv_at hl 4 rfl) ?_
          refine va_aldq hx hb hK hP 1 5 rfl rfl (vp_in_nI (n := 0) (by decide) (by decide)) dX11_paste_30 ?_
          refine W.eq (g2 := F0 m 31 ls [.ref (a 6)]) rfl ?_
          refine lv_astore (lv' := [(7, .ref (a 6)), (6, .ref (a 7)), (0, .ref (a 0)), (1, .int (nI 1)), (2, .int y), (3, .int (nI 0)), (4, .int v), (5, .int w)]) hx hb dX11_paste_31 hl (by decide) rfl (fun ls hl => ?_)
          refine lv_aload hx hb dX11_paste_33 (lv_at hl 1 rfl) ?_
          refine x_pV hF (c_X6_isNothing1 l D t a) m_1223 m_1224 m_1225 m_12 m_1226 hd_X6_isNothing ⟨Nat.le_of_ble_eq_true rfl, Nat.le_of_ble_eq_true rfl⟩ hK hN hP hS [3] rfl 0 (ci := 6) rfl rfl rfl hl.1 rfl (Nat.le_of_ble_eq_true rfl) dX11_paste_35 ⟨Nat.zero_le _, Nat.zero_le _⟩ (fun H locs hP hS => ?_)
          refine lv_if_ne (tgt := 49) hx hb dX11_paste_38 (by decide) (fun _ => ?_) (fun c9 => absurd c9 (by decide))
          refine lv_bipush (v := (-6)) hx hb dX11_paste_49 (by decide) ?_
          exact W.iret (v := (-6)) hx hb hr (fun t9 ht hW => ⟨⟨(-6), (), rfl, rfl, trivial⟩, hS.F ht⟩) hS.2.2 dX11_paste_51
        · refine lv_aload_n hx hb dX11_paste_17 rfl (lv_at hl 0 rfl) ?_
          refine va_get (D := D) (ci := 11) (v := .ref (a 5)) (C := RX11) (T := TX11) (N := 12) hx hb hts iX11 hown hK hP 0 rfl rfl 6 (by decide) (hts _ m_439) (fun _ h9 => h9) rfl dX11_paste_18 ?_
          refine lv_iload_n hx hb dX11_paste_21 rfl (lv_at hl 1 rfl) ?_
          refine va_aldq hx hb hK hP 1 5 rfl rfl (vp_in_nI (n := 1) (by decide) (by decide)) dX11_paste_22 ?_
          refine W.eq (g2 := F0 m 23 ls [.ref (a 7)]) rfl ?_
          refine lv_astore (lv' := [(6, .ref (a 7)), (0, .ref (a 0)), (1, .int (nI 1)), (2, .int y), (3, .int (nI 1)), (4, .int v), (5, .int w)]) hx hb dX11_paste_23 hl (by decide) rfl (fun ls hl => ?_)
          refine lv_aload_n hx hb dX11_paste_25 rfl (lv_at hl 1 rfl) ?_
          refine va_get (D := D) (ci := 11) (v := .ref (a 5)) (C := RX11) (T := TX11) (N := 12) hx hb hts iX11 hown hK hP 0 rfl rfl 6 (by decide) (hts _ m_439) (fun _ h9 => h9) rfl dX11_paste_26 ?_
          refine lv_iload_n hx hb dX11_paste_29 rfl (lv_at hl 4 rfl) ?_
          refine va_aldq hx hb hK hP 1 5 rfl rfl (vp_in_nI (n := 1) (by decide) (by decide)) dX11_paste_30 ?_
          refine W.eq (g2 := F0 m 31 ls [.ref (a 7)]) rfl ?_
          refine lv_astore (lv' := [(7, .ref (a 7)), (6, .ref (a 7)), (0, .ref (a 0)), (1, .int (nI 1)), (2, .int y), (3, .int (nI 1)), (4, .int v), (5, .int w)]) hx hb dX11_paste_31 hl (by decide) rfl (fun ls hl => ?_)
          refine lv_aload hx hb dX11_paste_33 (lv_at hl 1 rfl) ?_
          refine x_pV hF (c_X6_isNothing1 l D t a) m_1223 m_1224 m_1225 m_12 m_1226 hd_X6_isNothing ⟨Nat.le_of_ble_eq_true rfl, Nat.le_of_ble_eq_true rfl⟩ hK hN hP hS [3] rfl 0 (ci := 6) rfl rfl rfl hl.1 rfl (Nat.le_of_ble_eq_true rfl) dX11_paste_35 ⟨Nat.zero_le _, Nat.zero_le _⟩ (fun H locs hP hS => ?_)
          refine lv_if_ne (tgt := 49) hx hb dX11_paste_38 (by decide) (fun _ => ?_) (fun c9 => absurd c9 (by decide))
          refine lv_bipush (v := (-6)) hx hb dX11_paste_49 (by decide) ?_
          exact W.iret (v := (-6)) hx hb hr (fun t9 ht hW => ⟨⟨(-6), (), rfl, rfl, trivial⟩, hS.F ht⟩) hS.2.2 dX11_paste_51
        · refine lv_aload_n hx hb dX11_paste_17 rfl (lv_at hl 0 rfl) ?_
          refine va_get (D := D) (ci := 11) (v := .ref (a 5)) (C := RX11) (T := TX11) (N := 12) hx hb hts iX11 hown hK hP 0 rfl rfl 6 (by decide) (hts _ m_439) (fun _ h9 => h9) rfl dX11_paste_18 ?_
          refine lv_iload_n hx hb dX11_paste_21 rfl (lv_at hl 1 rfl) ?_
          refine va_aldq hx hb hK hP 1 5 rfl rfl (vp_in_nI (n := 1) (by decide) (by decide)) dX11_paste_22 ?_
          refine W.eq (g2 := F0 m 23 ls [.ref (a 7)]) rfl ?_
          refine lv_astore (lv' := [(6, .ref (a 7)), (0, .ref (a 0)), (1, .int (nI 1)), (2, .int y), (3, .int (nI 2)), (4, .int v), (5, .int w)]) hx hb dX11_paste_23 hl (by decide) rfl (fun ls hl => ?_)
          refine lv_aload_n hx hb dX11_paste_25 rfl (lv_at hl 1 rfl) ?_
          refine va_get (D := D) (ci := 11) (v := .ref (a 5)) (C := RX11) (T := TX11) (N := 12) hx hb hts iX11 hown hK hP 0 rfl rfl 6 (by decide) (hts _ m_439) (fun _ h9 => h9) rfl dX11_paste_26 ?_
          refine lv_iload_n hx hb dX11_paste_29 rfl (lv_at hl 4 rfl) ?_
          refine va_aldq hx hb hK hP 1 5 rfl rfl (vp_in_nI (n := 2) (by decide) (by decide)) dX11_paste_30 ?_
          refine W.eq (g2 := F0 m 31 ls [.ref (a 8)]) rfl ?_
          refine lv_astore (lv' := [(7, .ref (a 8)), (6, .ref (a 7)), (0, .ref (a 0)), (1, .int (nI 1)), (2, .int y), (3, .int (nI 2)), (4, .int v), (5, .int w)]) hx hb dX11_paste_31 hl (by decide) rfl (fun ls hl => ?_)
          refine lv_aload hx hb dX11_paste_33 (lv_at hl 1 rfl) ?_
          refine x_pV hF (c_X6_isNothing1 l D t a) m_1223 m_1224 m_1225 m_12 m_1226 hd_X6_isNothing ⟨Nat.le_of_ble_eq_true rfl, Nat.le_of_ble_eq_true rfl⟩ hK hN hP hS [3] rfl 0 (ci := 6) rfl rfl rfl hl.1 rfl (Nat.le_of_ble_eq_true rfl) dX11_paste_35 ⟨Nat.zero_le _, Nat.zero_le _⟩ (fun H locs hP hS => ?_)
          refine lv_if_ne (tgt := 49) hx hb dX11_paste_38 (by decide) (fun _ => ?_) (fun c9 => absurd c9 (by decide))
          refine lv_bipush (v := (-6)) hx hb dX11_paste_49 (by decide) ?_
          exact W.iret (v := (-6)) hx hb hr (fun t9 ht hW => ⟨⟨(-6), (), rfl, rfl, trivial⟩, hS.F ht⟩) hS.2.2 dX11_paste_51
        · refine lv_aload_n hx hb dX11_paste_17 rfl (lv_at hl 0 rfl) ?_
          refine va_get (D := D) (ci := 11) (v := .ref (a 5)) (C := RX11) (T := TX11) (N := 12) hx hb hts iX11 hown hK hP 0 rfl rfl 6 (by decide) (hts _ m_439) (fun _ h9 => h9) rfl dX11_paste_18 ?_
          refine lv_iload_n hx hb dX11_paste_21 rfl (lv_at hl 1 rfl) ?_
          refine va_aldq hx hb hK hP 1 5 rfl rfl (vp_in_nI (n := 1) (by decide) (by decide)) dX11_paste_22 ?_
          refine W.eq (g2 := F0 m 23 ls [.ref (a 7)]) rfl ?_
          refine lv_astore (lv' := [(6, .ref (a 7)), (0, .ref (a 0)), (1, .int (nI 1)), (2, .int y), (3, .int (nI 3)), (4, .int v), (5, .int w)]) hx hb dX11_paste_23 hl (by decide) rfl (fun ls hl => ?_)
          refine lv_aload_n hx hb dX11_paste_25 rfl (lv_at hl 1 rfl) ?_
          refine va_get (D := D) (ci := 11) (v := .ref (a 5)) (C := RX11) (T := TX11) (N := 12) hx hb hts iX11 hown hK hP 0 rfl rfl 6 (by decide) (hts _ m_439) (fun _ h9 => h9) rfl dX11_paste_26 ?_
          refine lv_iload_n hx hb dX11_paste_29 rfl (lv_at hl 4 rfl) ?_
          refine va_aldq hx hb hK hP 1 5 rfl rfl (vp_in_nI (n := 3) (by decide) (by decide)) dX11_paste_30 ?_
          refine W.eq (g2 := F0 m 31 ls [.ref (a 9)]) rfl ?_
          refine lv_astore (lv' := [(7, .ref (a 9)), (6, .ref (a 7)), (0, .ref (a 0)), (1, .int (nI 1)), (2, .int y), (3, .int (nI 3)), (4, .int v), (5, .int w)]) hx hb dX11_paste_31 hl (by decide) rfl (fun ls hl => ?_)
          refine lv_aload hx hb dX11_paste_33 (lv_at hl 1 rfl) ?_
          refine x_pV hF (c_X6_isNothing1 l D t a) m_1223 m_1224 m_1225 m_12 m_1226 hd_X6_isNothing ⟨Nat.le_of_ble_eq_true rfl, Nat.le_of_ble_eq_true rfl⟩ hK hN hP hS [3] rfl 0 (ci := 6) rfl rfl rfl hl.1 rfl (Nat.le_of_ble_eq_true rfl) dX11_paste_35 ⟨Nat.zero_le _, Nat.zero_le _⟩ (fun H locs hP hS => ?_)
          refine lv_if_ne (tgt := 49) hx hb dX11_paste_38 (by decide) (fun _ => ?_) (fun c9 => absurd c9 (by decide))
          refine lv_bipush (v := (-6)) hx hb dX11_paste_49 (by decide) ?_
          exact W.iret (v := (-6)) hx hb hr (fun t9 ht hW => ⟨⟨(-6), (), rfl, rfl, trivial⟩, hS.F ht⟩) hS.2.2 dX11_paste_51
      · obtain ⟨j_6, hj_6, rfl⟩ := ib_nat (n := 4) c_2 (by decide)
        obtain rfl | rfl | rfl | rfl : j_6 = 0 ∨ j_6 = 1 ∨ j_6 = 2 ∨ j_6 = 3 := by omega
        · refine lv_aload_n hx hb dX11_paste_17 rfl (lv_at hl 0 rfl) ?_
          refine va_get (D := D) (ci := 11) (v := .ref (a 5)) (C := RX11) (T := TX11) (N := 12) hx hb hts iX11 hown hK hP 0 rfl rfl 6 (by decide) (hts _ m_439) (fun _ h9 => h9) rfl dX11_paste_18 ?_
          refine lv_iload_n hx hb dX11_paste_21 rfl (lv_at hl 1 rfl) ?_
          refine va_aldq hx hb hK hP 1 5 rfl rfl (vp_in_nI (n := 2) (by decide) (by decide)) dX11_paste_22 ?_
          refine W.eq (g2 := F0 m 23 ls [.ref (a 8)]) rfl ?_
          refine lv_astore (lv' := [(6, .ref (a 8)), (0, .ref (a 0)), (1, .int (nI 2)), (2, .int y), (3, .int (nI 0)), (4, .int v), (5, .int w)]) hx hb dX11_paste_23 hl (by decide) rfl (fun ls hl => ?_)
          refine lv_aload_n hx hb dX11_paste_25 rfl (lv_at hl 1 rfl) ?_
          refine va_get (D := D) (ci := 11) (v := .ref (a 5)) (C := RX11) (T := TX11) (N := 12) hx hb hts iX11 hown hK hP 0 rfl rfl 6 (by decide) (hts _ m_439) (fun _ h9 => h9) rfl dX11_paste_26 ?_
          refine lv_iload_n hx hb dX11_paste_29 rfl (lv_at hl 4 rfl) ?_
          refine va_aldq hx hb hK hP 1 5 rfl rfl (vp_in_nI (n := 0) (by decide) (by decide)) dX11_paste_30 ?_
          refine W.eq (g2 := F0 m 31 ls [.ref (a 6)]) rfl ?_
          refine lv_astore (lv' := [(7, .ref (a 6)), (6, .ref (a 8)), (0, .ref (a 0)), (1, .int (nI 2)), (2, .int y), (3, .int (nI 0)), (4, .int v), (5, .int w)]) hx hb dX11_paste_31 hl (by decide) rfl (fun ls hl => ?_)
          refine lv_aload hx hb dX11_paste_33 (lv_at hl 1 rfl) ?_
          refine x_pV hF (c_X6_isNothing2 l D t a) m_1223 m_1224 m_1225 m_12 m_1226 hd_X6_isNothing ⟨Nat.le_of_ble_eq_true rfl, Nat.le_of_ble_eq_true rfl⟩ hK hN hP hS [4] rfl 0 (ci := 6) rfl rfl rfl hl.1 rfl (Nat.le_of_ble_eq_true rfl) dX11_paste_35 ⟨Nat.zero_le _, Nat.zero_le _⟩ (fun H locs hP hS => ?_)
          refine lv_if_ne (tgt := 49) hx hb dX11_paste_38 (by decide) (fun _ => ?_) (fun c9 => absurd c9 (by decide))
          refine lv_bipush (v := (-6)) hx hb dX11_paste_49 (by decide) ?_
          exact W.iret (v := (-6)) hx hb hr (fun t9 ht hW => ⟨⟨(-6), (), rfl, rfl, trivial⟩, hS.F ht⟩) hS.2.2 dX11_paste_51
        · refine lv_aload_n hx hb dX11_paste_17 rfl (lv_at hl 0 rfl) ?_
          refine va_get (D := D) (ci := 11) (v := .ref (a 5)) (C := RX11) (T := TX11) (N := 12) hx hb hts iX11 hown hK hP 0 rfl rfl 6 (by decide) (hts _ m_439) (fun _ h9 => h9) rfl dX11_paste_18 ?_
          refine lv_iload_n hx hb dX11_paste_21 rfl (lv_at hl 1 rfl) ?_
          refine va_aldq hx hb hK hP 1 5 rfl rfl (vp_in_nI (n := 2) (by decide) (by decide)) dX11_paste_22 ?_
          refine W.eq (g2 := F0 m 23 ls [.ref (a 8)]) rfl ?_
          refine lv_astore (lv' := [(6, .ref (a 8)), (0, .ref (a 0)), (1, .int (nI 2)), (2, .int y), (3, .int (nI 1)), (4, .int v), (5, .int w)]) hx hb dX11_paste_23 hl (by decide) rfl (fun ls hl => ?_)
          refine lv_aload_n hx hb dX11_paste_25 rfl (lv_at hl 1 rfl) ?_
          refine va_get (D := D) (ci := 11) (v := .ref (a 5)) (C := RX11) (T := TX11) (N := 12) hx hb hts iX11 hown hK hP 0 rfl rfl 6 (by decide) (hts _ m_439) (fun _ h9 => h9) rfl dX11_paste_26 ?_
          refine lv_iload_n hx hb dX11_paste_29 rfl (lv_at hl 4 rfl) ?_
          refine va_aldq hx hb hK hP 1 5 rfl rfl (vp_in_nI (n := 1) (by decide) (by decide)) dX11_paste_30 ?_
          refine W.eq (g2 := F0 m 31 ls [.ref (a 7)]) rfl ?_
          refine lv_astore (lv' := [(7, .ref (a 7)), (6, .ref (a 8)), (0, .ref (a 0)), (1, .int (nI 2)), (2, .int y), (3, .int (nI 1)), (4, .int v), (5, .int w)]) hx hb dX11_paste_31 hl (by decide) rfl (fun ls hl => ?_)
          refine lv_aload hx hb dX11_paste_33 (lv_at hl 1 rfl) ?_
          refine x_pV hF (c_X6_isNothing2 l D t a) m_1223 m_1224 m_1225 m_12 m_1226 hd_X6_isNothing ⟨Nat.le_of_ble_eq_true rfl, Nat.le_of_ble_eq_true rfl⟩ hK hN hP hS [4] rfl 0 (ci := 6) rfl rfl rfl hl.1 rfl (Nat.le_of_ble_eq_true rfl) dX11_paste_35 ⟨Nat.zero_le _, Nat.zero_le _⟩ (fun H locs hP hS => ?_)
          refine lv_if_ne (tgt := 49) hx hb dX11_paste_38 (by decide) (fun _ => ?_) (fun c9 => absurd c9 (by decide))
          refine lv_bipush (v := (-6)) hx hb dX11_paste_49 (by decide) ?_
          exact W.iret (v := (-6)) hx hb hr (fun t9 ht hW => ⟨⟨(-6), (), rfl, rfl, trivial⟩, hS.F ht⟩) hS.2.2 dX11_paste_51
        · refine lv_aload_n hx hb dX11_paste_17 rfl (lv_at hl 0 rfl) ?_
          refine va_get (D := D) (ci := 11) (v := .ref (a 5)) (C := RX11) (T := TX11) (N := 12) hx hb hts iX11 hown hK hP 0 rfl rfl 6 (by decide) (hts _ m_439) (fun _ h9 => h9) rfl dX11_paste_18 ?_
          refine lv_iload_n hx hb dX11_paste_21 rfl (lv_at hl 1 rfl) ?_
          refine va_aldq hx hb hK hP 1 5 rfl rfl (vp_in_nI (n := 2) (by decide) (by decide)) dX11_paste_22 ?_
          refine W.eq (g2 := F0 m 23 ls [.ref (a 8)]) rfl ?_
          refine lv_astore (lv' := [(6, .ref (a 8)), (0, .ref (a 0)), (1, .int (nI 2)), (2, .int y), (3, .int (nI 2)), (4, .int v), (5, .int w)]) hx hb dX11_paste_23 hl (by decide) rfl (fun ls hl => ?_)
          refine lv_aload_n hx hb dX11_paste_25 rfl (lv_at hl 1 rfl) ?_
          refine va_get (D := D) (ci := 11) (v := .ref (a 5)) (C := RX11) (T := TX11) (N := 12) hx hb hts iX11 hown hK hP 0 rfl rfl 6 (by decide) (hts _ m_439) (fun _ h9 => h9) rfl dX11_paste_26 ?_
          refine lv_iload_n hx hb dX11_paste_29 rfl (lv_at hl 4 rfl) ?_
          refine va_aldq hx hb hK hP 1 5 rfl rfl (vp_in_nI (n := 2) (by decide) (by decide)) dX11_paste_30 ?_
          refine W.eq (g2 := F0 m 31 ls [.ref (a 8)]) rfl ?_
          refine lv_astore (lv' := [(7, .ref (a 8)), (6, .ref (a 8)), (0, .ref (a 0)), (1, .int (nI 2)), (2, .int y), (3, .int (nI 2)), (4, .int v), (5, .int w)]) hx hb dX11_paste_31 hl (by decide) rfl (fun ls hl => ?_)
          refine lv_aload hx hb dX11_paste_33 (lv_at hl 1 rfl) ?_
          refine x_pV hF (c_X6_isNothing2 l D t a) m_1223 m_1224 m_1225 m_12 m_1226 hd_X6_isNothing ⟨Nat.le_of_ble_eq_true rfl, Nat.le_of_ble_eq_true rfl⟩ hK hN hP hS [4] rfl 0 (ci := 6) rfl rfl rfl hl.1 rfl (Nat.le_of_ble_eq_true rfl) dX11_paste_35 ⟨Nat.zero_le _, Nat.zero_le _⟩ (fun H locs hP hS => ?_)
          refine lv_if_ne (tgt := 49) hx hb dX11_paste_38 (by decide) (fun _ => ?_) (fun c9 => absurd c9 (by decide))
          refine lv_bipush (v := (-6)) hx hb dX11_paste_49 (by decide) ?_
          exact W.iret (v := (-6)) hx hb hr (fun t9 ht hW => ⟨⟨(-6), (), rfl, rfl, trivial⟩, hS.F ht⟩) hS.2.2 dX11_paste_51
        · refine lv_aload_n hx hb dX11_paste_17 rfl (lv_at hl 0 rfl) ?_
          refine va_get (D := D) (ci := 11) (v := .ref (a 5)) (C := RX11) (T := TX11) (N := 12) hx hb hts iX11 hown hK hP 0 rfl rfl 6 (by decide) (hts _ m_439) (fun _ h9 => h9) rfl dX11_paste_18 ?_
          refine lv_iload_n hx hb dX11_paste_21 rfl (lv_at hl 1 rfl) ?_
          refine va_aldq hx hb hK hP 1 5 rfl rfl (vp_in_nI (n := 2) (by decide) (by decide)) dX11_paste_22 ?_
          refine W.eq (g2 := F0 m 23 ls [.ref (a 8)]) rfl ?_
          refine lv_astore (lv' := [(6, .ref (a 8)), (0, .ref (a 0)), (1, .int (nI 2)), (2, .int y), (3, .int (nI 3)), (4, .int v), (5, .int w)]) hx hb dX11_paste_23 hl (by decide) rfl (fun ls hl => ?_)
          refine lv_aload_n hx hb dX11_paste_25 rfl (lv_at hl 1 rfl) ?_
          refine va_get (D := D) (ci := 11) (v := .ref (a 5)) (C := RX11) (T := TX11) (N := 12) hx hb hts iX11 hown hK hP 0 rfl rfl 6 (by decide) (hts _ m_439) (fun _ h9 => h9) rfl dX11_paste_26 ?_
          refine lv_iload_n hx hb dX11_paste_29 rfl (lv_at hl 4 rfl) ?_
          refine va_aldq hx hb hK hP 1 5 rfl rfl (vp_in_nI (n := 3) (by decide) (by decide)) dX11_paste_30 ?_
          refine W.eq (g2 := F0 m 31 ls [.ref (a 9)]) rfl ?_
          refine lv_astore (lv' := [(7, .ref (a 9)), (6, .ref (a 8)), (0, .ref (a 0)), (1, .int (nI 2)), (2, .int y), (3, .int (nI 3)), (4, .int v), (5, .int w)]) hx hb dX11_paste_31 hl (by decide) rfl (fun ls hl => ?_)
          refine lv_aload hx hb dX11_paste_33 (lv_at hl 1 rfl) ?_
          refine x_pV hF (c_X6_isNothing2 l D t a) m_1223 m_1224 m_1225 m_12 m_1226 hd_X6_isNothing ⟨Nat.le_of_ble_eq_true rfl, Nat.le_of_ble_eq_true rfl⟩ hK hN hP hS [4] rfl 0 (ci := 6) rfl rfl rfl hl.1 rfl (Nat.le_of_ble_eq_true rfl) dX11_paste_35 ⟨Nat.zero_le _, Nat.zero_le _⟩ (fun H locs hP hS => ?_)
          refine lv_if_ne (tgt := 49) hx hb dX11_paste_38 (by decide) (fun _ => ?_) (fun c9 => absurd c9 (by decide))
          refine lv_bipush (v := (-6)) hx hb dX11_paste_49 (by decide) ?_
          exact W.iret (v := (-6)) hx hb hr (fun t9 ht hW => ⟨⟨(-6), (), rfl, rfl, trivial⟩, hS.F ht⟩) hS.2.2 dX11_paste_51
      · obtain ⟨j_7, hj_7, rfl⟩ := ib_nat (n := 4) c_2 (by decide)
        obtain rfl | rfl | rfl | rfl : j_7 = 0 ∨ j_7 = 1 ∨ j_7 = 2 ∨ j_7 = 3 := by omega
        · refine lv_aload_n hx hb dX11_paste_17 rfl (lv_at hl 0 rfl) ?_
          refine va_get (D := D) (ci := 11) (v := .ref (a 5)) (C := RX11) (T := TX11) (N := 12) hx hb hts iX11 hown hK hP 0 rfl rfl 6 (by decide) (hts _ m_439) (fun _ h9 => h9) rfl dX11_paste_18 ?_
          refine lv_iload_n hx hb dX11_paste_21 rfl (lv_at hl 1 rfl) ?_
          refine va_aldq hx hb hK hP 1 5 rfl rfl (vp_in_nI (n := 3) (by decide) (by decide)) dX11_paste_22 ?_
          refine W.eq (g2 := F0 m 23 ls [.ref (a 9)]) rfl ?_
          refine lv_astore (lv' := [(6, .ref (a 9)), (0, .ref (a 0)), (1, .int (nI 3)), (2, .int y), (3, .int (nI 0)), (4, .int v), (5, .int w)]) hx hb dX11_paste_23 hl (by decide) rfl (fun ls hl => ?_)
          refine lv_aload_n hx hb dX11_paste_25 rfl (lv_at hl 1 rfl) ?_
          refine va_get (D := D) (ci := 11) (v := .ref (a 5)) (C := RX11) (T := TX11) (N := 12) hx hb hts iX11 hown hK hP 0 rfl rfl 6 (by decide) (hts _ m_439) (fun _ h9 => h9) rfl dX11_paste_26 ?_
          refine lv_iload_n hx hb dX11_paste_29 rfl (lv_at hl 4 rfl) ?_
          refine va_aldq hx hb hK hP 1 5 rfl rfl (vp_in_nI (n := 0) (by decide) (by decide)) dX11_paste_30 ?_
          refine W.eq (g2 := F0 m 31 ls [.ref (a 6)]) rfl ?_
          refine lv_astore (lv' := [(7, .ref (a 6)), (6, .ref (a 9)), (0, .ref (a 0)), (1, .int (nI 3)), (2, .int y), (3, .int (nI 0)), (4, .int v), (5, .int w)]) hx hb dX11_paste_31 hl (by decide) rfl (fun ls hl => ?_)
          refine lv_aload hx hb dX11_paste_33 (lv_at hl 1 rfl) ?_
          refine x_pV hF (c_X6_isNothing3 l D t a) m_1223 m_1224 m_1225 m_12 m_1226 hd_X6_isNothing ⟨Nat.le_of_ble_eq_true rfl, Nat.le_of_ble_eq_true rfl⟩ hK hN hP hS [5] rfl 0 (ci := 6) rfl rfl rfl hl.1 rfl (Nat.le_of_ble_eq_true rfl) dX11_paste_35 ⟨Nat.zero_le _, Nat.zero_le _⟩ (fun H locs hP hS => ?_)
          refine lv_if_ne (tgt := 49) hx hb dX11_paste_38 (by decide) (fun _ => ?_) (fun c9 => absurd c9 (by decide))
          refine lv_bipush (v := (-6)) hx hb dX11_paste_49 (by decide) ?_
          exact W.iret (v := (-6)) hx hb hr (fun t9 ht hW => ⟨⟨(-6), (), rfl, rfl, trivial⟩, hS.F ht⟩) hS.2.2 dX11_paste_51
        · refine lv_aload_n hx hb dX11_paste_17 rfl (lv_at hl 0 rfl) ?_
          refine va_get (D := D) (ci := 11) (v := .ref (a 5)) (C := RX11) (T := TX11) (N := 12) hx hb hts iX11 hown hK hP 0 rfl rfl 6 (by decide) (hts _ m_439) (fun _ h9 => h9) rfl dX11_paste_18 ?_
          refine lv_iload_n hx hb dX11_paste_21 rfl (lv_at hl 1 rfl) ?_
          refine va_aldq hx hb hK hP 1 5 rfl rfl (vp_in_nI (n := 3) (by decide) (by decide)) dX11_paste_22 ?_
          refine W.eq (g2 := F0 m 23 ls [.ref (a 9)]) rfl ?_
          refine lv_astore (lv' := [(6, .ref (a 9)), (0, .ref (a 0)), (1, .int (nI 3)), (2, .int y), (3, .int (nI 1)), (4, .int v), (5, .int w)]) hx hb dX11_paste_23 hl (by decide) rfl (fun ls hl => ?_)
          refine lv_aload_n hx hb dX11_paste_25 rfl (lv_at hl 1 rfl) ?_
          refine va_get (D := D) (ci := 11) (v := .ref (a 5)) (C := RX11) (T := TX11) (N := 12) hx hb hts iX11 hown hK hP 0 rfl rfl 6 (by decide) (hts _ m_439) (fun _ h9 => h9) rfl dX11_paste_26 ?_
          refine lv_iload_n hx hb dX11_paste_29 rfl (lv_at hl 4 rfl) ?_
          refine va_aldq hx hb hK hP 1 5 rfl rfl (vp_in_nI (n := 1) (by decide) (by decide)) dX11_paste_30 ?_
          refine W.eq (g2 := F0 m 31 ls [.ref (a 7)]) rfl ?_
          refine lv_astore (lv' := [(7, .ref (a 7)), (6, .ref (a 9)), (0, .ref (a 0)), (1, .int (nI 3)), (2, .int y), (3, .int (nI 1)), (4, .int v), (5, .int w)]) hx hb dX11_paste_31 hl (by decide) rfl (fun ls hl => ?_)
          refine lv_aload hx hb dX11_paste_33 (lv_at hl 1 rfl) ?_
          refine x_pV hF (c_X6_isNothing3 l D t a) m_1223 m_1224 m_1225 m_12 m_1226 hd_X6_isNothing ⟨Nat.le_of_ble_eq_true rfl, Nat.le_of_ble_eq_true rfl⟩ hK hN hP hS [5] rfl 0 (ci := 6) rfl rfl rfl hl.1 rfl (Nat.le_of_ble_eq_true rfl) dX11_paste_35 ⟨Nat.zero_le _, Nat.zero_le _⟩ (fun H locs hP hS => ?_)
          refine lv_if_ne (tgt := 49) hx hb dX11_paste_38 (by decide) (fun _ => ?_) (fun c9 => absurd c9 (by decide))
          refine lv_bipush (v := (-6)) hx hb dX11_paste_49 (by decide) ?_
          exact W.iret (v := (-6)) hx hb hr (fun t9 ht hW => ⟨⟨(-6), (), rfl, rfl, trivial⟩, hS.F ht⟩) hS.2.2 dX11_paste_51
        · refine lv_aload_n hx hb dX11_paste_17 rfl (lv_at hl 0 rfl) ?_
          refine va_get (D := D) (ci := 11) (v := .ref (a 5)) (C := RX11) (T := TX11) (N := 12) hx hb hts iX11 hown hK hP 0 rfl rfl 6 (by decide) (hts _ m_439) (fun _ h9 => h9) rfl dX11_paste_18 ?_
          refine lv_iload_n hx hb dX11_paste_21 rfl (lv_at hl 1 rfl) ?_
          refine va_aldq hx hb hK hP 1 5 rfl rfl (vp_in_nI (n := 3) (by decide) (by decide)) dX11_paste_22 ?_
          refine W.eq (g2 := F0 m 23 ls [.ref (a 9)]) rfl ?_
          refine lv_astore (lv' := [(6, .ref (a 9)), (0, .ref (a 0)), (1, .int (nI 3)), (2, .int y), (3, .int (nI 2)), (4, .int v), (5, .int w)]) hx hb dX11_paste_23 hl (by decide) rfl (fun ls hl => ?_)
          refine lv_aload_n hx hb dX11_paste_25 rfl (lv_at hl 1 rfl) ?_
          refine va_get (D := D) (ci := 11) (v := .ref (a 5)) (C := RX11) (T := TX11) (N := 12) hx hb hts iX11 hown hK hP 0 rfl rfl 6 (by decide) (hts _ m_439) (fun _ h9 => h9) rfl dX11_paste_26 ?_
          refine lv_iload_n hx hb dX11_paste_29 rfl (lv_at hl 4 rfl) ?_
          refine va_aldq hx hb hK hP 1 5 rfl rfl (vp_in_nI (n := 2) (by decide) (by decide)) dX11_paste_30 ?_
          refine W.eq (g2 := F0 m 31 ls [.ref (a 8)]) rfl ?_
          refine lv_astore (lv' := [(7, .ref (a 8)), (6, .ref (a 9)), (0, .ref (a 0)), (1, .int (nI 3)), (2, .int y), (3, .int (nI 2)), (4, .int v), (5, .int w)]) hx hb dX11_paste_31 hl (by decide) rfl (fun ls hl => ?_)
          refine lv_aload hx hb dX11_paste_33 (lv_at hl 1 rfl) ?_
          refine x_pV hF (c_X6_isNothing3 l D t a) m_1223 m_1224 m_1225 m_12 m_1226 hd_X6_isNothing ⟨Nat.le_of_ble_eq_true rfl, Nat.le_of_ble_eq_true rfl⟩ hK hN hP hS [5] rfl 0 (ci := 6) rfl rfl rfl hl.1 rfl (Nat.le_of_ble_eq_true rfl) dX11_paste_35 ⟨Nat.zero_le _, Nat.zero_le _⟩ (fun H locs hP hS => ?_)
          refine lv_if_ne (tgt := 49) hx hb dX11_paste_38 (by decide) (fun _ => ?_) (fun c9 => absurd c9 (by decide))
          refine lv_bipush (v := (-6)) hx hb dX11_paste_49 (by decide) ?_
          exact W.iret (v := (-6)) hx hb hr (fun t9 ht hW => ⟨⟨(-6), (), rfl, rfl, trivial⟩, hS.F ht⟩) hS.2.2 dX11_paste_51
        · refine lv_aload_n hx hb dX11_paste_17 rfl (lv_at hl 0 rfl) ?_
          refine va_get (D := D) (ci := 11) (v := .ref (a 5)) (C := RX11) (T := TX11) (N := 12) hx hb hts iX11 hown hK hP 0 rfl rfl 6 (by decide) (hts _ m_439) (fun _ h9 => h9) rfl dX11_paste_18 ?_
          refine lv_iload_n hx hb dX11_paste_21 rfl (lv_at hl 1 rfl) ?_
          refine va_aldq hx hb hK hP 1 5 rfl rfl (vp_in_nI (n := 3) (by decide) (by decide)) dX11_paste_22 ?_
          refine W.eq (g2 := F0 m 23 ls [.ref (a 9)]) rfl ?_
          refine lv_astore (lv' := [(6, .ref (a 9)), (0, .ref (a 0)), (1, .int (nI 3)), (2, .int y), (3, .int (nI 3)), (4, .int v), (5, .int w)]) hx hb dX11_paste_23 hl (by decide) rfl (fun ls hl => ?_)
          refine lv_aload_n hx hb dX11_paste_25 rfl (lv_at hl 1 rfl) ?_
          refine va_get (D := D) (ci := 11) (v := .ref (a 5)) (C := RX11) (T := TX11) (N := 12) hx hb hts iX11 hown hK hP 0 rfl rfl 6 (by decide) (hts _ m_439) (fun _ h9 => h9) rfl dX11_paste_26 ?_
          refine lv_iload_n hx hb dX11_paste_29 rfl (lv_at hl 4 rfl) ?_
          refine va_aldq hx hb hK hP 1 5 rfl rfl (vp_in_nI (n := 3) (by decide) (by decide)) dX11_paste_30 ?_
          refine W.eq (g2 := F0 m 31 ls [.ref (a 9)]) rfl ?_
          refine lv_astore (lv' := [(7, .ref (a 9)), (6, .ref (a 9)), (0, .ref (a 0)), (1, .int (nI 3)), (2, .int y), (3, .int (nI 3)), (4, .int v), (5, .int w)]) hx hb dX11_paste_31 hl (by decide) rfl (fun ls hl => ?_)
          refine lv_aload hx hb dX11_paste_33 (lv_at hl 1 rfl) ?_
          refine x_pV hF (c_X6_isNothing3 l D t a) m_1223 m_1224 m_1225 m_12 m_1226 hd_X6_isNothing ⟨Nat.le_of_ble_eq_true rfl, Nat.le_of_ble_eq_true rfl⟩ hK hN hP hS [5] rfl 0 (ci := 6) rfl rfl rfl hl.1 rfl (Nat.le_of_ble_eq_true rfl) dX11_paste_35 ⟨Nat.zero_le _, Nat.zero_le _⟩ (fun H locs hP hS => ?_)
          refine lv_if_ne (tgt := 49) hx hb dX11_paste_38 (by decide) (fun _ => ?_) (fun c9 => absurd c9 (by decide))
          refine lv_bipush (v := (-6)) hx hb dX11_paste_49 (by decide) ?_
          exact W.iret (v := (-6)) hx hb hr (fun t9 ht hW => ⟨⟨(-6), (), rfl, rfl, trivial⟩, hS.F ht⟩) hS.2.2 dX11_paste_51
    · refine lv_bipush (v := (-2)) hx hb dX11_paste_14 (by decide) ?_
      exact W.iret (v := (-2)) hx hb hr (fun t9 ht hW => ⟨⟨(-2), (), rfl, (by unfold sp_paste; rw [if_neg c_1, if_pos c_2]), trivial⟩, hS.F ht⟩) hS.2.2 dX11_paste_16

