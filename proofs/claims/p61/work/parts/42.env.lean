/-! what never changes, out of the Statement's start -/
def scL (i : Nat) : List Cond :=
  [Cond.exactly (.string (sE i).1 (sE i).2.1) "java/lang/String",
   Cond.eq (.field (.string (sE i).1 (sE i).2.1) "java/lang/String" "coder" "B") (.int 0),
   Cond.arrayOf (.field (.string (sE i).1 (sE i).2.1) "java/lang/String" "value" "[B") .byte,
   Cond.eq (.length (.field (.string (sE i).1 (sE i).2.1) "java/lang/String" "value" "[B")) (.int (Int32.ofNat (sL i)))] ++ (List.range (sL i)).map (fun j => Cond.eq (.elem (.field (.string (sE i).1 (sE i).2.1) "java/lang/String" "value" "[B") (.int (Int32.ofNat j))) (.int ((sB i).getD j 0)))
theorem sc_in : ∀ i ∈ List.range 46, ∀ w ∈ scL i, w ∈ flatC (Jvm.Cond.and given_1 narrow_1) := by decide +kernel
theorem sc_ref : ∀ i ∈ List.range 46, Cond.stringRef (sE i).1 (sE i).2.1 (sE i).2.2.1 ∈ lw_tbl := by decide +kernel
set_option maxHeartbeats 4000000 in
theorem env_of {args : Array Value} {s : State} {A : Nat → Prop} (hgv : (Jvm.Cond.and given_1 narrow_1).before args s = true) (hts0 : ∀ w ∈ lw_tbl, w.before args s = true) (hA : ∀ a : Nat, a < s.heap.size → ¬ A a) : ∃ aK aV : Nat → Nat, EV aK aV A s s.heap := by
  have hs := flat_of_before _ hgv
  have h1 : ∀ i : Nat, ∃ q : Nat × Nat, i < 46 → vk_R (sE i).1 (sE i).2.1 (sE i).2.2.1 q.1 s ∧ vk_S 1 [sL i] [sB i] (fun _ => q.1) (fun _ => q.2) A s s.heap := by
    intro i
    by_cases hi : i < 46
    · have hm : ∀ w ∈ scL i, w.before args s = true := fun w hw => hs w (sc_in i (List.mem_range.mpr hi) w hw)
      have hr : (Cond.stringRef (sE i).1 (sE i).2.1 (sE i).2.2.1).before args s = true := hts0 _ (sc_ref i (List.mem_range.mpr hi))
      have hsl := (sL_rg i hi).2
      have m0 : (Cond.exactly (.string (sE i).1 (sE i).2.1) "java/lang/String").before args s = true := hm _ (List.mem_append_left _ (List.mem_cons_self ..))
      have m1 : (Cond.eq (.field (.string (sE i).1 (sE i).2.1) "java/lang/String" "coder" "B") (.int 0)).before args s = true := hm _ (List.mem_append_left _ (List.mem_cons_of_mem _ (List.mem_cons_self ..)))
      have m2 : (Cond.arrayOf (.field (.string (sE i).1 (sE i).2.1) "java/lang/String" "value" "[B") .byte).before args s = true := hm _ (List.mem_append_left _ (List.mem_cons_of_mem _ (List.mem_cons_of_mem _ (List.mem_cons_self ..))))
      have m3 : (Cond.eq (.length (.field (.string (sE i).1 (sE i).2.1) "java/lang/String" "value" "[B")) (.int (Int32.ofNat (sL i)))).before args s = true := hm _ (List.mem_append_left _ (List.mem_cons_of_mem _ (List.mem_cons_of_mem _ (List.mem_cons_of_mem _ (List.mem_cons_self ..)))))
      have m4 : ∀ j, j < sL i → (Cond.eq (.elem (.field (.string (sE i).1 (sE i).2.1) "java/lang/String" "value" "[B") (.int (Int32.ofNat j))) (.int ((sB i).getD j 0))).before args s = true := fun j hj => hm _ (List.mem_append_right _ (List.mem_map.mpr ⟨j, List.mem_range.mpr hj, rfl⟩))
      obtain ⟨adK, adV, hV, hev⟩ := vk_Sof (args := args) (s := s) (N := 1) (tm := fun _ => .string (sE i).1 (sE i).2.1) (len := [sL i]) (byt := [sB i]) (A := A)
        (fun k hk => by obtain rfl : k = 0 := by omega
                        show sL i < 2 ^ 31
                        omega)
        (fun k hk => m0) (fun k hk => m1) (fun k hk => m2)
        (fun k hk => by obtain rfl : k = 0 := by omega
                        exact m3)
        (fun k hk j hj => by obtain rfl : k = 0 := by omega
                             exact m4 j hj)
        (fun k j hk hj hne => absurd (by omega : k = j) hne) hA
      refine ⟨(adK 0, adV 0), fun _ => ⟨vk_R.of hr (hev 0 (by decide)), ⟨fun k hk => ?_, fun k j hk hj _ => by omega⟩⟩⟩
      obtain rfl : k = 0 := by omega
      exact hV.1 0 (by decide)
    · exact ⟨(0, 0), fun h => absurd h hi⟩
  obtain ⟨ad, had⟩ := Classical.axiomOfChoice h1
  obtain ⟨tt, ht, hT⟩ := va_Tof (args := args) (s := s) (tm := .static "WordSeats$Parties" "ORDERS_BEHIND" "[I") (ty := .int) (N := 4) (f := fun j => .int (OB j)) (A := A) (by decide) (hs _ (by decide +kernel)) (va_eqt (hs _ (by decide +kernel)))
    (fun j hj => by
      match j, hj with
      | 0, _ => exact va_eqt (z := 6) (hs _ (by decide +kernel))
      | 1, _ => exact va_eqt (z := 2) (hs _ (by decide +kernel))
      | 2, _ => exact va_eqt (z := 2) (hs _ (by decide +kernel))
      | 3, _ => exact va_eqt (z := 6) (hs _ (by decide +kernel))
      | n + 4, h => exact absurd h (by omega)) hA
  have z1 : va_Z "java/lang/String" "COMPACT_STRINGS" "Z" (.int 1) A s s.heap := va_Zof (hts0 _ (by decide +kernel)) (hts0 _ (by decide +kernel)) (va_eqt (hs _ (by decide +kernel))) hA
  have z2 : va_Z "WordSeats$Parties" "ORDERS_BEHIND" "[I" (.ref tt) A s s.heap := va_Zof (hts0 _ (by decide +kernel)) (hts0 _ (by decide +kernel)) ht hA
  have z3 : va_Zq "jdk/internal/util/Preconditions" "SIOOBE_FORMATTER" "Ljava/util/function/BiFunction;" A s s.heap := va_Zqof (hts0 _ (by decide +kernel)) (hts0 _ (by decide +kernel)) (hs _ (by decide +kernel)) hA
  refine ⟨fun k => if k < 46 then (ad k).1 else tt, fun k => (ad k).2, fun i hi => ?_, z1, z2, hT, z3⟩
  have e : (if i < 46 then (ad i).1 else tt) = (ad i).1 := if_pos hi
  show vk_R (sE i).1 (sE i).2.1 (sE i).2.2.1 (if i < 46 then (ad i).1 else tt) s ∧ vk_S 1 [sL i] [sB i] (fun _ => if i < 46 then (ad i).1 else tt) (fun _ => (ad i).2) A s s.heap
  rw [e]
  exact had i hi
