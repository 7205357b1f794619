set_option maxHeartbeats 4000000 in
set_option maxRecDepth 100000 in
theorem s_X11_count (l : Launch) (D : va_G) (t : Nat → ClassId) (a : Nat → Nat) (v0_5 : Int32) (v1_1 : Int32) (v6_1 : Int32) (v6_2 : Int32) (v7_1 : Int32) (v7_2 : Int32) (v8_1 : Int32) (v8_2 : Int32) (v9_1 : Int32) (v9_2 : Int32) (v40_0 : Int32) (v40_1 : Int32) (v40_2 : Int32) (v40_3 : Int32) (v40_4 : Int32) (v40_5 : Int32) (v40_6 : Int32) (v40_7 : Int32) (v50_0 : Int32) (v54_0 : Int32) (v54_1 : Int32) (v54_2 : Int32) (p0 : Int32) (r1_1 : rg 0 1600 v1_1) (r6_2 : rg 0 60 v6_2) (r7_2 : rg 0 60 v7_2) (r8_2 : rg 0 60 v8_2) (r9_2 : rg 0 60 v9_2) (r40_1 : rg 0 8 v40_1) (r40_5 : rg 0 4 v40_5) (r40_6 : rg 0 9 v40_6) (r40_7 : rg 0 9 v40_7) (r50_0 : rg 0 8 v50_0) (r54_0 : rg 0 60 v54_0) : Met l yX11_count (wd yX11_count cX11_count 2 (some .int)) (RM 2 0 0) (PreP D (TY t) [.ref (a 0), .int p0] [(a 0, .inr (11, [.ref (a 1), .ref (a 20), .ref (a 3), .ref (a 40), .ref (a 4), .int v0_5, .ref (a 5), .ref (a 14), .ref (a 15), .ref (a 16), .ref (a 17), .ref (a 18)])), (a 1, .inr (8, [.ref (a 2), .int v1_1])), (a 5, .inl (t 5, 4, .inr (.inr (.inr (.inr ((va_up (va_up (va_up (va_up (fun _ => none) 0 (some (a 6))) 1 (some (a 7))) 2 (some (a 8))) 3 (some (a 9))))))))), (a 6, .inr (6, [.ref (a 10), .int v6_1, .int v6_2])), (a 7, .inr (6, [.ref (a 11), .int v7_1, .int v7_2])), (a 8, .inr (6, [.ref (a 12), .int v8_1, .int v8_2])), (a 9, .inr (6, [.ref (a 13), .int v9_1, .int v9_2])), (a 40, .inr (0, [.int v40_0, .int v40_1, .int v40_2, .int v40_3, .int v40_4, .int v40_5, .int v40_6, .int v40_7, .ref (a 41), .ref (a 42), .ref (a 43), .ref (a 44), .ref (a 45), .ref (a 46), .ref (a 47), .ref (a 48), .ref (a 49), .ref (a 50), .ref (a 54)])), (a 50, .inr (5, [.int v50_0, .ref (a 51), .ref (a 52), .ref (a 53)])), (a 54, .inr (9, [.int v54_0, .int v54_1, .int v54_2, .ref (a 55), .ref (a 56), .ref (a 57), .ref (a 58)]))]) (QP (fun _ => True)) 0 0 NoF := by
  refine Met.ofW (cc := cX11_count) (maxL := 2) (ret := (some .int)) (by decide) rfl ?_
  intro p e s m args below meth c s₁ B hml hv
  obtain ⟨rfl, hP, hK, hN⟩ := hv
  have hx := B.exec
  have hb := B.bytes
  have hr := B.returns
  have hts : ∀ w ∈ TB, w.before _ s = true := fun w h => atoms_spec (ws := wd yX11_count cX11_count 2 (some .int)) B.pre w (List.mem_cons_of_mem _ h)
  have hown : s.vm.findClass RX11 = some m.cls := findClass_of_methodNamed B.named
  have hlocks := B.notSynchronized
  have hF : CallFix p m c cX11_count 2 s _ TB RX11 := ⟨hx, hb, hml, hown, hts⟩
  have hl := lv_entry ([.ref (a 0), .int p0]) (n := 2) (Nat.le_of_ble_eq_true rfl)
  rw [lg_entry_eq]
  generalize (lg_sl ([.ref (a 0), .int p0]) ++ List.replicate (2 - (lg_sl ([.ref (a 0), .int p0])).length) Slot.unset).toArray = ls at hl ⊢
  have hl : lv_has ls 2 [(0, .ref (a 0)), (1, .int p0)] := hl
  have hS : va_S NoF s.heap s.heap [] := va_S.rf
  have hP : va_P D classes [(a 0, .inr (11, [.ref (a 1), .ref (a 20), .ref (a 3), .ref (a 40), .ref (a 4), .int v0_5, .ref (a 5), .ref (a 14), .ref (a 15), .ref (a 16), .ref (a 17), .ref (a 18)])), (a 1, .inr (8, [.ref (a 2), .int v1_1])), (a 5, .inl (t 5, 4, .inr (.inr (.inr (.inr ((va_up (va_up (va_up (va_up (fun _ => none) 0 (some (a 6))) 1 (some (a 7))) 2 (some (a 8))) 3 (some (a 9))))))))), (a 6, .inr (6, [.ref (a 10), .int v6_1, .int v6_2])), (a 7, .inr (6, [.ref (a 11), .int v7_1, .int v7_2])), (a 8, .inr (6, [.ref (a 12), .int v8_1, .int v8_2])), (a 9, .inr (6, [.ref (a 13), .int v9_1, .int v9_2])), (a 40, .inr (0, [.int v40_0, .int v40_1, .int v40_2, .int v40_3, .int v40_4, .int v40_5, .int v40_6, .int v40_7, .ref (a 41), .ref (a 42), .ref (a 43), .ref (a 44), .ref (a 45), .ref (a 46), .ref (a 47), .ref (a 48), .ref (a 49), .ref (a 50), .ref (a 54)])), (a 50, .inr (5, [.int v50_0, .ref (a 51), .ref (a 52), .ref (a 53)])), (a 54, .inr (9, [.int v54_0, .int v54_1, .int v54_2, .ref (a 55), .ref (a 56), .ref (a 57), .ref (a 58)]))] s.heap := hP
  refine lv_iload_n hx hb dX11_count_0 rfl (lv_at hl 1 rfl) ?_
  by_cases s_1 : p0 = 0
  · refine x_seti 0 s_1 ?_
    refine lv_tableIn (off := 63) (tgt := 64) hx hb dX11_count_1 (by decide) (by decide) rfl (by decide) ?_
    refine lv_aload_n hx hb dX11_count_64 rfl (lv_at hl 0 rfl) ?_
    refine va_get (D := D) (ci := 11) (v := .ref (a 40)) (C := RX11) (T := TX11) (N := 12) hx hb hts iX11 hown hK hP 0 rfl rfl 3 (by decide) (hts _ m_436) (fun _ h9 => h9) rfl dX11_count_65 ?_
    refine va_getN (D := D) (ci := 0) (v := .int v40_1) (C := RX0) (T := TX0) (N := 19) (host := "WordSeats") hx hb hts iX0 hown hK hP 7 rfl rfl 1 (by decide) (va_Nw.use rfl (hN _ n_124)) (fun _ h9 => h9) rfl dX11_count_68 ?_
    exact W.iret (v := v40_1) hx hb hr (fun t9 ht hW => ⟨⟨v40_1, (), rfl, trivial, trivial⟩, hS.F ht⟩) hS.2.2 dX11_count_71
  · by_cases s_2 : p0 = 1
    · refine x_seti 1 s_2 ?_
      refine lv_tableIn (off := 71) (tgt := 72) hx hb dX11_count_1 (by decide) (by decide) rfl (by decide) ?_
      refine lv_aload_n hx hb dX11_count_72 rfl (lv_at hl 0 rfl) ?_
      refine va_get (D := D) (ci := 11) (v := .ref (a 40)) (C := RX11) (T := TX11) (N := 12) hx hb hts iX11 hown hK hP 0 rfl rfl 3 (by decide) (hts _ m_436) (fun _ h9 => h9) rfl dX11_count_73 ?_
      refine va_getN (D := D) (ci := 0) (v := .int v40_2) (C := RX0) (T := TX0) (N := 19) (host := "WordSeats") hx hb hts iX0 hown hK hP 7 rfl rfl 2 (by decide) (va_Nw.use rfl (hN _ n_128)) (fun _ h9 => h9) rfl dX11_count_76 ?_
      exact W.iret (v := v40_2) hx hb hr (fun t9 ht hW => ⟨⟨v40_2, (), rfl, trivial, trivial⟩, hS.F ht⟩) hS.2.2 dX11_count_79
    · by_cases s_3 : p0 = 2
      · refine x_seti 2 s_3 ?_
        refine lv_tableIn (off := 79) (tgt := 80) hx hb dX11_count_1 (by decide) (by decide) rfl (by decide) ?_
        refine lv_aload_n hx hb dX11_count_80 rfl (lv_at hl 0 rfl) ?_
        refine va_get (D := D) (ci := 11) (v := .ref (a 40)) (C := RX11) (T := TX11) (N := 12) hx hb hts iX11 hown hK hP 0 rfl rfl 3 (by decide) (hts _ m_436) (fun _ h9 => h9) rfl dX11_count_81 ?_
        refine va_getN (D := D) (ci := 0) (v := .int v40_3) (C := RX0) (T := TX0) (N := 19) (host := "WordSeats") hx hb hts iX0 hown hK hP 7 rfl rfl 3 (by decide) (va_Nw.use rfl (hN _ n_131)) (fun _ h9 => h9) rfl dX11_count_84 ?_
        exact W.iret (v := v40_3) hx hb hr (fun t9 ht hW => ⟨⟨v40_3, (), rfl, trivial, trivial⟩, hS.F ht⟩) hS.2.2 dX11_count_87
      · by_cases s_4 : p0 = 3
        · refine x_seti 3 s_4 ?_
          refine lv_tableIn (off := 87) (tgt := 88) hx hb dX11_count_1 (by decide) (by decide) rfl (by decide) ?_
          refine lv_aload_n hx hb dX11_count_88 rfl (lv_at hl 0 rfl) ?_
          refine va_get (D := D) (ci := 11) (v := .ref (a 40)) (C := RX11) (T := TX11) (N := 12) hx hb hts iX11 hown hK hP 0 rfl rfl 3 (by decide) (hts _ m_436) (fun _ h9 => h9) rfl dX11_count_89 ?_
          refine va_getN (D := D) (ci := 0) (v := .int v40_4) (C := RX0) (T := TX0) (N := 19) (host := "WordSeats") hx hb hts iX0 hown hK hP 7 rfl rfl 4 (by decide) (va_Nw.use rfl (hN _ n_133)) (fun _ h9 => h9) rfl dX11_count_92 ?_
          exact W.iret (v := v40_4) hx hb hr (fun t9 ht hW => ⟨⟨v40_4, (), rfl, trivial, trivial⟩, hS.F ht⟩) hS.2.2 dX11_count_95
        · by_cases s_5 : p0 = 4
          · refine x_seti 4 s_5 ?_
            refine lv_tableIn (off := 95) (tgt := 96) hx hb dX11_count_1 (by decide) (by decide) rfl (by decide) ?_
            refine lv_aload_n hx hb dX11_count_96 rfl (lv_at hl 0 rfl) ?_
            refine va_get (D := D) (ci := 11) (v := .ref (a 40)) (C := RX11) (T := TX11) (N := 12) hx hb hts iX11 hown hK hP 0 rfl rfl 3 (by decide) (hts _ m_436) (fun _ h9 => h9) rfl dX11_count_97 ?_
            refine va_getN (D := D) (ci := 0) (v := .int v40_5) (C := RX0) (T := TX0) (N := 19) (host := "WordSeats") hx hb hts iX0 hown hK hP 7 rfl rfl 5 (by decide) (va_Nw.use rfl (hN _ n_139)) (fun _ h9 => h9) rfl dX11_count_100 ?_
            exact W.iret (v := v40_5) hx hb hr (fun t9 ht hW => ⟨⟨v40_5, (), rfl, trivial, trivial⟩, hS.F ht⟩) hS.2.2 dX11_count_103
          · by_cases s_6 : p0 = 5
            · refine x_seti 5 s_6 ?_
              refine lv_tableIn (off := 103) (tgt := 104) hx hb dX11_count_1 (by decide) (by decide) rfl (by decide) ?_
              refine lv_aload_n hx hb dX11_count_104 rfl (lv_at hl 0 rfl) ?_
              refine va_get (D := D) (ci := 11) (v := .ref (a 40)) (C := RX11) (T := TX11) (N := 12) hx hb hts iX11 hown hK hP 0 rfl rfl 3 (by decide) (hts _ m_436) (fun _ h9 => h9) rfl dX11_count_105 ?_
              refine va_getN (D := D) (ci := 0) (v := .int v40_6) (C := RX0) (T := TX0) (N := 19) (host := "WordSeats") hx hb hts iX0 hown hK hP 7 rfl rfl 6 (by decide) (va_Nw.use rfl (hN _ n_146)) (fun _ h9 => h9) rfl dX11_count_108 ?_
              exact W.iret (v := v40_6) hx hb hr (fun t9 ht hW => ⟨⟨v40_6, (), rfl, trivial, trivial⟩, hS.F ht⟩) hS.2.2 dX11_count_111
            · by_cases s_7 : p0 = 6
              · refine x_seti 6 s_7 ?_
                refine lv_tableIn (off := 111) (tgt := 112) hx hb dX11_count_1 (by decide) (by decide) rfl (by decide) ?_
                refine lv_aload_n hx hb dX11_count_112 rfl (lv_at hl 0 rfl) ?_
                refine va_get (D := D) (ci := 11) (v := .ref (a 40)) (C := RX11) (T := TX11) (N := 12) hx hb hts iX11 hown hK hP 0 rfl rfl 3 (by decide) (hts _ m_436) (fun _ h9 => h9) rfl dX11_count_113 ?_
                refine va_getN (D := D) (ci := 0) (v := .int v40_7) (C := RX0) (T := TX0) (N := 19) (host := "WordSeats") hx hb hts iX0 hown hK hP 7 rfl rfl 7 (by decide) (va_Nw.use rfl (hN _ n_152)) (fun _ h9 => h9) rfl dX11_count_116 ?_
                exact W.iret (v := v40_7) hx hb hr (fun t9 ht hW => ⟨⟨v40_7, (), rfl, trivial, trivial⟩, hS.F ht⟩) hS.2.2 dX11_count_119
              · by_cases s_8 : p0 = 7
                · refine x_seti 7 s_8 ?_
                  refine lv_tableIn (off := 119) (tgt := 120) hx hb dX11_count_1 (by decide) (by decide) rfl (by decide) ?_
                  refine lv_aload_n hx hb dX11_count_120 rfl (lv_at hl 0 rfl) ?_
                  refine va_get (D := D) (ci := 11) (v := .ref (a 40)) (C := RX11) (T := TX11) (N := 12) hx hb hts iX11 hown hK hP 0 rfl rfl 3 (by decide) (hts _ m_436) (fun _ h9 => h9) rfl dX11_count_121 ?_
                  refine va_getN (D := D) (ci := 0) (v := .ref (a 50)) (C := RX0) (T := TX0) (N := 19) (host := "WordSeats") hx hb hts iX0 hown hK hP 7 rfl rfl 17 (by decide) (va_Nw.use rfl (hN _ n_188)) (fun _ h9 => h9) rfl dX11_count_124 ?_
                  refine va_getN (D := D) (ci := 5) (v := .int v50_0) (C := RX5) (T := TX5) (N := 4) (host := "WordSeats") hx hb hts iX5 hown hK hP 8 rfl rfl 0 (by decide) (va_Nw.use rfl (hN _ n_62)) (fun _ h9 => h9) rfl dX11_count_127 ?_
                  exact W.iret (v := v50_0) hx hb hr (fun t9 ht hW => ⟨⟨v50_0, (), rfl, trivial, trivial⟩, hS.F ht⟩) hS.2.2 dX11_count_130
                · by_cases s_9 : p0 = 8
                  · refine x_seti 8 s_9 ?_
                    refine lv_tableIn (off := 130) (tgt := 131) hx hb dX11_count_1 (by decide) (by decide) rfl (by decide) ?_
                    refine lv_aload_n hx hb dX11_count_131 rfl (lv_at hl 0 rfl) ?_
                    refine va_get (D := D) (ci := 11) (v := .ref (a 40)) (C := RX11) (T := TX11) (N := 12) hx hb hts iX11 hown hK hP 0 rfl rfl 3 (by decide) (hts _ m_436) (fun _ h9 => h9) rfl dX11_count_132 ?_
                    refine va_getN (D := D) (ci := 0) (v := .ref (a 54)) (C := RX0) (T := TX0) (N := 19) (host := "WordSeats") hx hb hts iX0 hown hK hP 7 rfl rfl 18 (by decide) (va_Nw.use rfl (hN _ n_191)) (fun _ h9 => h9) rfl dX11_count_135 ?_
                    refine va_getN (D := D) (ci := 9) (v := .int v54_0) (C := RX9) (T := TX9) (N := 7) (host := "WordSeats") hx hb hts iX9 hown hK hP 9 rfl rfl 0 (by decide) (va_Nw.use rfl (hN _ n_86)) (fun _ h9 => h9) rfl dX11_count_138 ?_
                    exact W.iret (v := v54_0) hx hb hr (fun t9 ht hW => ⟨⟨v54_0, (), rfl, trivial, trivial⟩, hS.F ht⟩) hS.2.2 dX11_count_141
                  · by_cases s_10 : p0 = 9
                    · refine x_seti 9 s_10 ?_
                      refine lv_tableIn (off := 141) (tgt := 142) hx hb dX11_count_1 (by decide) (by decide) rfl (by decide) ?_
                      refine lv_aload_n hx hb dX11_count_142 rfl (lv_at hl 0 rfl) ?_
                      refine va_get (D := D) (ci := 11) (v := .ref (a 40)) (C := RX11) (T := TX11) (N := 12) hx hb hts iX11 hown hK hP 0 rfl rfl 3 (by decide) (hts _ m_436) (fun _ h9 => h9) rfl dX11_count_143 ?_
                      refine va_getN (D := D) (ci := 0) (v := .int v40_0) (C := RX0) (T := TX0) (N := 19) (host := "WordSeats") hx hb hts iX0 hown hK hP 7 rfl rfl 0 (by decide) (va_Nw.use rfl (hN _ n_119)) (fun _ h9 => h9) rfl dX11_count_146 ?_
                      exact W.iret (v := v40_0) hx hb hr (fun t9 ht hW => ⟨⟨v40_0, (), rfl, trivial, trivial⟩, hS.F ht⟩) hS.2.2 dX11_count_149
                    · by_cases s_11 : p0 = 10
                      · refine x_seti 10 s_11 ?_
                        refine lv_tableIn (off := 149) (tgt := 150) hx hb dX11_count_1 (by decide) (by decide) rfl (by decide) ?_
                        refine lv_aload_n hx hb dX11_count_150 rfl (lv_at hl 0 rfl) ?_
                        refine va_get (D := D) (ci := 11) (v := .ref (a 1)) (C := RX11) (T := TX11) (N := 12) hx hb hts iX11 hown hK hP 0 rfl rfl 0 (by decide) (hts _ m_433) (fun _ h9 => h9) rfl dX11_count_151 ?_
                        refine va_getN (D := D) (ci := 8) (v := .int v1_1) (C := RX8) (T := TX8) (N := 2) (host := "WordSeats") hx hb hts iX8 hown hK hP 1 rfl rfl 1 (by decide) (va_Nw.use rfl (hN _ n_38)) (fun _ h9 => h9) rfl dX11_count_154 ?_
                        exact W.iret (v := v1_1) hx hb hr (fun t9 ht hW => ⟨⟨v1_1, (), rfl, trivial, trivial⟩, hS.F ht⟩) hS.2.2 dX11_count_157
                      · by_cases s_12 : p0 = 11
                        · refine x_seti 11 s_12 ?_
                          refine lv_tableIn (off := 157) (tgt := 158) hx hb dX11_count_1 (by decide) (by decide) rfl (by decide) ?_
                          refine lv_aload_n hx hb dX11_count_158 rfl (lv_at hl 0 rfl) ?_
                          refine y_pV hF (s_X11_filledSlots l D t a v0_5 v6_1 v6_2 v7_1 v7_2 v8_1 v8_2 v9_1 v9_2 r6_2 r7_2 r8_2 r9_2) m_1294 m_1296 m_s35 m_1 m_1297 hd_X11_filledSlots ⟨Nat.le_of_ble_eq_true rfl, Nat.le_of_ble_eq_true rfl⟩ hK hN hP hS [0, 2, 3, 4, 5, 6] rfl 0 (ci := 11) rfl rfl rfl hl.1 rfl (Nat.le_of_ble_eq_true rfl) dX11_count_159 ⟨Nat.zero_le _, Nat.zero_le _⟩ (fun r_13 H locs hr_13 hP hS => ?_)
                          exact W.iret (v := r_13) hx hb hr (fun t9 ht hW => ⟨⟨r_13, (), rfl, trivial, trivial⟩, hS.F ht⟩) hS.2.2 dX11_count_162
                        · refine lv_tableOut (tgt := 163) hx hb dX11_count_1 (by have q0 := c_ne s_1 (k := 0) (by decide); have q1 := c_ne s_2 (k := 1) (by decide); have q2 := c_ne s_3 (k := 2) (by decide); have q3 := c_ne s_4 (k := 3) (by decide); have q4 := c_ne s_5 (k := 4) (by decide); have q5 := c_ne s_6 (k := 5) (by decide); have q6 := c_ne s_7 (k := 6) (by decide); have q7 := c_ne s_8 (k := 7) (by decide); have q8 := c_ne s_9 (k := 8) (by decide); have q9 := c_ne s_10 (k := 9) (by decide); have q10 := c_ne s_11 (k := 10) (by decide); have q11 := c_ne s_12 (k := 11) (by decide); omega) (by decide) ?_
                          refine lv_iconst (v := (-1)) hx hb dX11_count_163 (by decide) ?_
                          exact W.iret (v := (-1)) hx hb hr (fun t9 ht hW => ⟨⟨(-1), (), rfl, trivial, trivial⟩, hS.F ht⟩) hS.2.2 dX11_count_164

