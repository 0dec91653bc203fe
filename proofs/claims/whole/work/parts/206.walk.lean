abbrev rmX9_carryAll : Room := { frames := 2, cells := 0, slots := 0, locals := 45 }
set_option maxHeartbeats 4000000 in
set_option maxRecDepth 100000 in
theorem kX9_carryAll (l : Launch) (D : va_G) (cI cZ cO : ClassId) (d0 : Nat → Nat) (sz : Nat) (S0 : St) (p0 : Int32) (tg : St) (ht : xX9_carryAll p0 S0 = some tg) : Met l yX9_carryAll wsX9_carryAll rmX9_carryAll (q_PM D cI cZ cO [.ref (d0 0), .int p0] sz (wg9 cI cZ d0 S0)) (va_Qv (fun _ : Unit => True) (fun _ t => va_P D vwCl (wg9 cI cZ d0 tg) t.heap) (va_A (wg9 cI cZ d0 S0) sz)) 0 0 (va_A (wg9 cI cZ d0 S0) sz) := by
  refine Met.ofW (cc := cX9_carryAll) (maxL := 2) (ret := none) (by decide) rfl ?_
  intro p e s m args below meth c s₁ B hml hv
  obtain ⟨rfl, hsz, hE, hP, hD0⟩ := hv
  have hx := B.exec
  have hb := B.bytes
  have hr := B.returns
  have hts := atoms_spec (ws := wsX9_carryAll) B.pre
  have hown : s.vm.findClass RX9 = some m.cls := findClass_of_methodNamed B.named
  have hlocks := B.notSynchronized
  have hi9 : ∀ w ∈ u_ws RX9 TX9 37, w ∈ wsX9_carryAll := by decide +kernel
  have hw0 := hts (.fieldLink RX9 189 "HailNamesModel" "at" "I") (by decide +kernel)
  have hw1 := hts (.fieldLink RX9 185 "HailNamesModel" "isBack" "Z") (by decide +kernel)
  have hw2 := hts (.fieldLink RX9 156 "HailNamesModel" "seconds" "I") (by decide +kernel)
  have hw3 := hts (.fieldLink RX9 7 "HailNamesModel" "counts" "[I") (by decide +kernel)
  have hw4 := hts (.fieldLink RX9 13 "HailNamesModel" "noted" "[I") (by decide +kernel)
  have hw5 := hts (.fieldLink RX9 16 "HailNamesModel" "lies" "[I") (by decide +kernel)
  have hw6 := hts (.fieldLink RX9 19 "HailNamesModel" "size" "[I") (by decide +kernel)
  have hw7 := hts (.fieldLink RX9 22 "HailNamesModel" "figure" "[I") (by decide +kernel)
  have hw8 := hts (.fieldLink RX9 25 "HailNamesModel" "stands" "[I") (by decide +kernel)
  have hw9 := hts (.fieldLink RX9 28 "HailNamesModel" "stun" "[I") (by decide +kernel)
  have hw10 := hts (.fieldLink RX9 31 "HailNamesModel" "hasRead" "[I") (by decide +kernel)
  have hw11 := hts (.fieldLink RX9 34 "HailNamesModel" "did" "[I") (by decide +kernel)
  subst hsz
  have hD1 := hD0.self (sz := s.heap.size)
  generalize hAe : va_A (wg9 cI cZ d0 S0) s.heap.size = A at hD1 ⊢
  have hA : ∀ q : Nat, s.heap.size ≤ q → A q := fun q h => by rw [← hAe]; exact Or.inr h
  have hS : va_S A s.heap s.heap [] := va_S.rf
  have hD : ∀ (S0 : St), va_D A (wg9 cI cZ d0 S0) := fun S0 => q_D hD1 rfl
  have hl := lv_entry ([.ref (d0 0), .int p0]) (n := 2) (Nat.le_of_ble_eq_true rfl)
  rw [lg_entry_eq]
  generalize (lg_sl ([.ref (d0 0), .int p0]) ++ List.replicate (2 - (lg_sl ([.ref (d0 0), .int p0])).length) Slot.unset).toArray = ls at hl ⊢
  have hl : lv_has ls 2 [(0, .ref (d0 0)), (1, .int p0)] := hl
  have ht := (xX9_carryAll_s p0 S0).symm.trans ht
  refine lv_aload_n hx hb dX9_carryAll_0 rfl (lv_at hl 0 rfl) ?_
  refine lv_iconst (v := 0) hx hb dX9_carryAll_1 (by decide) ?_
  refine va_put (D := D) (ci := 9) (v := .int 0) (ty := .int) (C := RX9) (T := TX9) (N := 37) hx hb hts hi9 tyX9 tyX9_ok nmX9 hown hE.1 hP (hD _) hS 0 rfl rfl 24 (by decide) hw0 (fun _ h9 => h9) rfl (by decide +kernel) rfl rfl (Nat.le_of_ble_eq_true rfl) dX9_carryAll_2 (fun H locs hP _ hS => ?_)
  have hP : va_P D vwCl (wg9 cI cZ d0 (q_su S0 24 0 0)) H := hP
  obtain ⟨T1, eT1⟩ : ∃ z : St, z = q_su S0 24 0 0 := ⟨_, rfl⟩
  rw [← eT1] at hP
  have ht := it_l ht eT1
  refine lv_aload_n hx hb dX9_carryAll_5 rfl (lv_at hl 0 rfl) ?_
  refine lv_iload_n hx hb dX9_carryAll_6 rfl (lv_at hl 1 rfl) ?_
  obtain ⟨g2, ht⟩ := it_g ht
  refine va_put (D := D) (ci := 9) (v := .int p0) (ty := .boolean) (C := RX9) (T := TX9) (N := 37) hx hb hts hi9 tyX9 tyX9_ok nmX9 hown hE.1 hP (hD _) hS 0 rfl rfl 25 (by decide) hw1 (fun _ h9 => h9) rfl (by decide +kernel) (q_zn g2) (q_zf (q_zn g2)) (Nat.le_of_ble_eq_true rfl) dX9_carryAll_7 (fun H locs hP _ hS => ?_)
  have hP : va_P D vwCl (wg9 cI cZ d0 (q_su T1 25 0 p0)) H := hP
  obtain ⟨T3, eT3⟩ : ∃ z : St, z = q_su T1 25 0 p0 := ⟨_, rfl⟩
  rw [← eT3] at hP
  have ht := it_l ht eT3
  refine lv_aload_n hx hb dX9_carryAll_10 rfl (lv_at hl 0 rfl) ?_
  refine lv_aload_n hx hb dX9_carryAll_11 rfl (lv_at hl 0 rfl) ?_
  refine lv_aload_n hx hb dX9_carryAll_12 rfl (lv_at hl 0 rfl) ?_
  refine va_get (D := D) (ci := 9) (v := .int (T3 10 0)) (C := RX9) (T := TX9) (N := 37) hx hb hts hi9 hown hE.1 hP 0 rfl rfl 10 (by decide) hw2 (fun _ h9 => h9) rfl dX9_carryAll_13 ?_
  obtain ⟨q4, hq4, ht⟩ := it_b ht
  have hFc := q_freeW (hD T3) hS hA
  refine q_mi (va_runV (As := [.int (T3 10 0)]) (rest := [.ref (d0 0)]) ⟨hx, hb, hml, hown, hts⟩ (kX9_carry l D cI cZ cO d0 H.size T3 (T3 10 0) q4 hq4) (cwV 1 hts gX9_carryAll_X9_carry rfl rfl rfl (by decide +kernel) ⟨Nat.le_of_ble_eq_true rfl, Nat.le_of_ble_eq_true rfl⟩) (q_mV (As := [.int (T3 10 0)]) hE hP (hD T3) (q0 := 0) (ci := 9) rfl rfl) rfl rfl hl.1 rfl (lv_room (Nat.le_of_ble_eq_true rfl)) dX9_carryAll_16 ⟨Nat.le_of_ble_eq_true rfl, Nat.le_of_ble_eq_true rfl⟩) hS hFc (fun H locs b5 hP1 hk hS => ?_)
  have hP : va_P D vwCl (wg9 cI cZ d0 q4.2) H := hP1
  refine va_put (D := D) (ci := 9) (v := .int q4.1) (ty := .int) (C := RX9) (T := TX9) (N := 37) hx hb hts hi9 tyX9 tyX9_ok nmX9 hown hE.1 hP (hD _) hS 0 rfl rfl 10 (by decide) hw2 (fun _ h9 => h9) rfl (by decide +kernel) rfl rfl (Nat.le_of_ble_eq_true rfl) dX9_carryAll_19 (fun H locs hP _ hS => ?_)
  have hP : va_P D vwCl (wg9 cI cZ d0 (q_su q4.2 10 0 q4.1)) H := hP
  obtain ⟨T6, eT6⟩ : ∃ z : St, z = q_su q4.2 10 0 q4.1 := ⟨_, rfl⟩
  rw [← eT6] at hP
  have ht := it_l ht eT6
  refine lv_aload_n hx hb dX9_carryAll_22 rfl (lv_at hl 0 rfl) ?_
  refine lv_aload_n hx hb dX9_carryAll_23 rfl (lv_at hl 0 rfl) ?_
  refine va_get (D := D) (ci := 9) (v := .ref (d0 1)) (C := RX9) (T := TX9) (N := 37) hx hb hts hi9 hown hE.1 hP 0 rfl rfl 0 (by decide) hw3 (fun _ h9 => h9) rfl dX9_carryAll_24 ?_
  refine lv_bipush (v := 8) hx hb dX9_carryAll_27 (by decide) ?_
  obtain ⟨q7, hq7, ht⟩ := it_b ht
  have hFc := q_freeW (hD T6) hS hA
  refine q_mv (va_runV (As := [.ref (d0 1), .int 8]) (rest := []) ⟨hx, hb, hml, hown, hts⟩ (kX9_carryRow_r0 l D cI cZ cO d0 H.size T6 8 q7 hq7) (cwV 2 hts gX9_carryAll_X9_carryRow rfl rfl rfl (by decide +kernel) ⟨Nat.le_of_ble_eq_true rfl, Nat.le_of_ble_eq_true rfl⟩) (q_mV (As := [.ref (d0 1), .int 8]) hE hP (hD T6) (q0 := 0) (ci := 9) rfl rfl) rfl rfl hl.1 rfl (lv_room (Nat.le_of_ble_eq_true rfl)) dX9_carryAll_29 ⟨Nat.le_of_ble_eq_true rfl, Nat.le_of_ble_eq_true rfl⟩) hS hFc (fun H locs hP1 hk hS => ?_)
  have hP : va_P D vwCl (wg9 cI cZ d0 q7) H := hP1
  refine lv_aload_n hx hb dX9_carryAll_32 rfl (lv_at hl 0 rfl) ?_
  refine lv_aload_n hx hb dX9_carryAll_33 rfl (lv_at hl 0 rfl) ?_
  refine va_get (D := D) (ci := 9) (v := .ref (d0 2)) (C := RX9) (T := TX9) (N := 37) hx hb hts hi9 hown hE.1 hP 0 rfl rfl 1 (by decide) hw4 (fun _ h9 => h9) rfl dX9_carryAll_34 ?_
  refine lv_bipush (v := 8) hx hb dX9_carryAll_37 (by decide) ?_
  obtain ⟨q8, hq8, ht⟩ := it_b ht
  have hFc := q_freeW (hD q7) hS hA
  refine q_mv (va_runV (As := [.ref (d0 2), .int 8]) (rest := []) ⟨hx, hb, hml, hown, hts⟩ (kX9_carryRow_r1 l D cI cZ cO d0 H.size q7 8 q8 hq8) (cwV 2 hts gX9_carryAll_X9_carryRow rfl rfl rfl (by decide +kernel) ⟨Nat.le_of_ble_eq_true rfl, Nat.le_of_ble_eq_true rfl⟩) (q_mV (As := [.ref (d0 2), .int 8]) hE hP (hD q7) (q0 := 0) (ci := 9) rfl rfl) rfl rfl hl.1 rfl (lv_room (Nat.le_of_ble_eq_true rfl)) dX9_carryAll_39 ⟨Nat.le_of_ble_eq_true rfl, Nat.le_of_ble_eq_true rfl⟩) hS hFc (fun H locs hP1 hk hS => ?_)
  have hP : va_P D vwCl (wg9 cI cZ d0 q8) H := hP1
  refine lv_aload_n hx hb dX9_carryAll_42 rfl (lv_at hl 0 rfl) ?_
  refine lv_aload_n hx hb dX9_carryAll_43 rfl (lv_at hl 0 rfl) ?_
  refine va_get (D := D) (ci := 9) (v := .ref (d0 3)) (C := RX9) (T := TX9) (N := 37) hx hb hts hi9 hown hE.1 hP 0 rfl rfl 2 (by decide) hw5 (fun _ h9 => h9) rfl dX9_carryAll_44 ?_
  refine lv_bipush (v := 8) hx hb dX9_carryAll_47 (by decide) ?_
  obtain ⟨q9, hq9, ht⟩ := it_b ht
  have hFc := q_freeW (hD q8) hS hA
  refine q_mv (va_runV (As := [.ref (d0 3), .int 8]) (rest := []) ⟨hx, hb, hml, hown, hts⟩ (kX9_carryRow_r2 l D cI cZ cO d0 H.size q8 8 q9 hq9) (cwV 2 hts gX9_carryAll_X9_carryRow rfl rfl rfl (by decide +kernel) ⟨Nat.le_of_ble_eq_true rfl, Nat.le_of_ble_eq_true rfl⟩) (q_mV (As := [.ref (d0 3), .int 8]) hE hP (hD q8) (q0 := 0) (ci := 9) rfl rfl) rfl rfl hl.1 rfl (lv_room (Nat.le_of_ble_eq_true rfl)) dX9_carryAll_49 ⟨Nat.le_of_ble_eq_true rfl, Nat.le_of_ble_eq_true rfl⟩) hS hFc (fun H locs hP1 hk hS => ?_)
  have hP : va_P D vwCl (wg9 cI cZ d0 q9) H := hP1
  refine lv_aload_n hx hb dX9_carryAll_52 rfl (lv_at hl 0 rfl) ?_
  refine lv_aload_n hx hb dX9_carryAll_53 rfl (lv_at hl 0 rfl) ?_
  refine va_get (D := D) (ci := 9) (v := .ref (d0 4)) (C := RX9) (T := TX9) (N := 37) hx hb hts hi9 hown hE.1 hP 0 rfl rfl 3 (by decide) hw6 (fun _ h9 => h9) rfl dX9_carryAll_54 ?_
  refine lv_bipush (v := 8) hx hb dX9_carryAll_57 (by decide) ?_
  obtain ⟨q10, hq10, ht⟩ := it_b ht
  have hFc := q_freeW (hD q9) hS hA
  refine q_mv (va_runV (As := [.ref (d0 4), .int 8]) (rest := []) ⟨hx, hb, hml, hown, hts⟩ (kX9_carryRow_r3 l D cI cZ cO d0 H.size q9 8 q10 hq10) (cwV 2 hts gX9_carryAll_X9_carryRow rfl rfl rfl (by decide +kernel) ⟨Nat.le_of_ble_eq_true rfl, Nat.le_of_ble_eq_true rfl⟩) (q_mV (As := [.ref (d0 4), .int 8]) hE hP (hD q9) (q0 := 0) (ci := 9) rfl rfl) rfl rfl hl.1 rfl (lv_room (Nat.le_of_ble_eq_true rfl)) dX9_carryAll_59 ⟨Nat.le_of_ble_eq_true rfl, Nat.le_of_ble_eq_true rfl⟩) hS hFc (fun H locs hP1 hk hS => ?_)
  have hP : va_P D vwCl (wg9 cI cZ d0 q10) H := hP1
  refine lv_aload_n hx hb dX9_carryAll_62 rfl (lv_at hl 0 rfl) ?_
  refine lv_aload_n hx hb dX9_carryAll_63 rfl (lv_at hl 0 rfl) ?_
  refine va_get (D := D) (ci := 9) (v := .ref (d0 5)) (C := RX9) (T := TX9) (N := 37) hx hb hts hi9 hown hE.1 hP 0 rfl rfl 4 (by decide) hw7 (fun _ h9 => h9) rfl dX9_carryAll_64 ?_
  refine lv_bipush (v := 8) hx hb dX9_carryAll_67 (by decide) ?_
  obtain ⟨q11, hq11, ht⟩ := it_b ht
  have hFc := q_freeW (hD q10) hS hA
  refine q_mv (va_runV (As := [.ref (d0 5), .int 8]) (rest := []) ⟨hx, hb, hml, hown, hts⟩ (kX9_carryRow_r4 l D cI cZ cO d0 H.size q10 8 q11 hq11) (cwV 2 hts gX9_carryAll_X9_carryRow rfl rfl rfl (by decide +kernel) ⟨Nat.le_of_ble_eq_true rfl, Nat.le_of_ble_eq_true rfl⟩) (q_mV (As := [.ref (d0 5), .int 8]) hE hP (hD q10) (q0 := 0) (ci := 9) rfl rfl) rfl rfl hl.1 rfl (lv_room (Nat.le_of_ble_eq_true rfl)) dX9_carryAll_69 ⟨Nat.le_of_ble_eq_true rfl, Nat.le_of_ble_eq_true rfl⟩) hS hFc (fun H locs hP1 hk hS => ?_)
  have hP : va_P D vwCl (wg9 cI cZ d0 q11) H := hP1
  refine lv_aload_n hx hb dX9_carryAll_72 rfl (lv_at hl 0 rfl) ?_
  refine lv_aload_n hx hb dX9_carryAll_73 rfl (lv_at hl 0 rfl) ?_
  refine va_get (D := D) (ci := 9) (v := .ref (d0 6)) (C := RX9) (T := TX9) (N := 37) hx hb hts hi9 hown hE.1 hP 0 rfl rfl 5 (by decide) hw8 (fun _ h9 => h9) rfl dX9_carryAll_74 ?_
  refine lv_iconst (v := 4) hx hb dX9_carryAll_77 (by decide) ?_
  obtain ⟨q12, hq12, ht⟩ := it_b ht
  have hFc := q_freeW (hD q11) hS hA
  refine q_mv (va_runV (As := [.ref (d0 6), .int 4]) (rest := []) ⟨hx, hb, hml, hown, hts⟩ (kX9_carryRow_r5 l D cI cZ cO d0 H.size q11 4 q12 hq12) (cwV 2 hts gX9_carryAll_X9_carryRow rfl rfl rfl (by decide +kernel) ⟨Nat.le_of_ble_eq_true rfl, Nat.le_of_ble_eq_true rfl⟩) (q_mV (As := [.ref (d0 6), .int 4]) hE hP (hD q11) (q0 := 0) (ci := 9) rfl rfl) rfl rfl hl.1 rfl (lv_room (Nat.le_of_ble_eq_true rfl)) dX9_carryAll_78 ⟨Nat.le_of_ble_eq_true rfl, Nat.le_of_ble_eq_true rfl⟩) hS hFc (fun H locs hP1 hk hS => ?_)
  have hP : va_P D vwCl (wg9 cI cZ d0 q12) H := hP1
  refine lv_aload_n hx hb dX9_carryAll_81 rfl (lv_at hl 0 rfl) ?_
  refine lv_aload_n hx hb dX9_carryAll_82 rfl (lv_at hl 0 rfl) ?_
  refine va_get (D := D) (ci := 9) (v := .ref (d0 7)) (C := RX9) (T := TX9) (N := 37) hx hb hts hi9 hown hE.1 hP 0 rfl rfl 6 (by decide) hw9 (fun _ h9 => h9) rfl dX9_carryAll_83 ?_
  refine lv_iconst (v := 4) hx hb dX9_carryAll_86 (by decide) ?_
  obtain ⟨q13, hq13, ht⟩ := it_b ht
  have hFc := q_freeW (hD q12) hS hA
  refine q_mv (va_runV (As := [.ref (d0 7), .int 4]) (rest := []) ⟨hx, hb, hml, hown, hts⟩ (kX9_carryRow_r6 l D cI cZ cO d0 H.size q12 4 q13 hq13) (cwV 2 hts gX9_carryAll_X9_carryRow rfl rfl rfl (by decide +kernel) ⟨Nat.le_of_ble_eq_true rfl, Nat.le_of_ble_eq_true rfl⟩) (q_mV (As := [.ref (d0 7), .int 4]) hE hP (hD q12) (q0 := 0) (ci := 9) rfl rfl) rfl rfl hl.1 rfl (lv_room (Nat.le_of_ble_eq_true rfl)) dX9_carryAll_87 ⟨Nat.le_of_ble_eq_true rfl, Nat.le_of_ble_eq_true rfl⟩) hS hFc (fun H locs hP1 hk hS => ?_)
  have hP : va_P D vwCl (wg9 cI cZ d0 q13) H := hP1
  refine lv_aload_n hx hb dX9_carryAll_90 rfl (lv_at hl 0 rfl) ?_
  refine lv_aload_n hx hb dX9_carryAll_91 rfl (lv_at hl 0 rfl) ?_
  refine va_get (D := D) (ci := 9) (v := .ref (d0 8)) (C := RX9) (T := TX9) (N := 37) hx hb hts hi9 hown hE.1 hP 0 rfl rfl 7 (by decide) hw10 (fun _ h9 => h9) rfl dX9_carryAll_92 ?_
  refine lv_iconst (v := 4) hx hb dX9_carryAll_95 (by decide) ?_
  obtain ⟨q14, hq14, ht⟩ := it_b ht
  have hFc := q_freeW (hD q13) hS hA
  refine q_mv (va_runV (As := [.ref (d0 8), .int 4]) (rest := []) ⟨hx, hb, hml, hown, hts⟩ (kX9_carryRow_r7 l D cI cZ cO d0 H.size q13 4 q14 hq14) (cwV 2 hts gX9_carryAll_X9_carryRow rfl rfl rfl (by decide +kernel) ⟨Nat.le_of_ble_eq_true rfl, Nat.le_of_ble_eq_true rfl⟩) (q_mV (As := [.ref (d0 8), .int 4]) hE hP (hD q13) (q0 := 0) (ci := 9) rfl rfl) rfl rfl hl.1 rfl (lv_room (Nat.le_of_ble_eq_true rfl)) dX9_carryAll_96 ⟨Nat.le_of_ble_eq_true rfl, Nat.le_of_ble_eq_true rfl⟩) hS hFc (fun H locs hP1 hk hS => ?_)
  have hP : va_P D vwCl (wg9 cI cZ d0 q14) H := hP1
  refine lv_aload_n hx hb dX9_carryAll_99 rfl (lv_at hl 0 rfl) ?_
  refine lv_aload_n hx hb dX9_carryAll_100 rfl (lv_at hl 0 rfl) ?_
  refine va_get (D := D) (ci := 9) (v := .ref (d0 9)) (C := RX9) (T := TX9) (N := 37) hx hb hts hi9 hown hE.1 hP 0 rfl rfl 8 (by decide) hw11 (fun _ h9 => h9) rfl dX9_carryAll_101 ?_
  refine lv_iconst (v := 4) hx hb dX9_carryAll_104 (by decide) ?_
  obtain ⟨q15, hq15, ht⟩ := it_b ht
  have hFc := q_freeW (hD q14) hS hA
  refine q_mv (va_runV (As := [.ref (d0 9), .int 4]) (rest := []) ⟨hx, hb, hml, hown, hts⟩ (kX9_carryRow_r8 l D cI cZ cO d0 H.size q14 4 q15 hq15) (cwV 2 hts gX9_carryAll_X9_carryRow rfl rfl rfl (by decide +kernel) ⟨Nat.le_of_ble_eq_true rfl, Nat.le_of_ble_eq_true rfl⟩) (q_mV (As := [.ref (d0 9), .int 4]) hE hP (hD q14) (q0 := 0) (ci := 9) rfl rfl) rfl rfl hl.1 rfl (lv_room (Nat.le_of_ble_eq_true rfl)) dX9_carryAll_105 ⟨Nat.le_of_ble_eq_true rfl, Nat.le_of_ble_eq_true rfl⟩) hS hFc (fun H locs hP1 hk hS => ?_)
  have hP : va_P D vwCl (wg9 cI cZ d0 q15) H := hP1
  obtain rfl := Option.some.inj ht
  exact W.vret hx hb hr (fun t e1 hW => ⟨⟨(), rfl, trivial, q_at e1 hP⟩, hS.F e1⟩) hS.2.2 dX9_carryAll_108
abbrev rmX9_back : Room := { frames := 3, cells := 0, slots := 0, locals := 66 }
set_option maxHeartbeats 4000000 in
set_option maxRecDepth 100000 in
theorem kX9_back (l : Launch) (D : va_G) (cI cZ cO : ClassId) (d0 : Nat → Nat) (sz : Nat) (S0 : St) (p0 : Int32) (tg : Int32 × St) (ht : xX9_back p0 S0 = some tg) : Met l yX9_back wsX9_back rmX9_back (q_PM D cI cZ cO [.ref (d0 0), .int p0] sz (wg9 cI cZ d0 S0)) (va_Qi (fun x (_ : Unit) => x = tg.1 ∧ True) (fun _ t => va_P D vwCl (wg9 cI cZ d0 tg.2) t.heap) (va_A (wg9 cI cZ d0 S0) sz)) 0 0 (va_A (wg9 cI cZ d0 S0) sz) := by
  refine Met.ofW (cc := cX9_back) (maxL := 2) (ret := (some .int)) (by decide) rfl ?_
  intro p e s m args below meth c s₁ B hml hv
  obtain ⟨rfl, hsz, hE, hP, hD0⟩ := hv
  have hx := B.exec
  have hb := B.bytes
  have hr := B.returns
  have hts := atoms_spec (ws := wsX9_back) B.pre
  have hown : s.vm.findClass RX9 = some m.cls := findClass_of_methodNamed B.named
  have hlocks := B.notSynchronized
  subst hsz
  have hD1 := hD0.self (sz := s.heap.size)
  generalize hAe : va_A (wg9 cI cZ d0 S0) s.heap.size = A at hD1 ⊢
  have hA : ∀ q : Nat, s.heap.size ≤ q → A q := fun q h => by rw [← hAe]; exact Or.inr h
  have hS : va_S A s.heap s.heap [] := va_S.rf
  have hD : ∀ (S0 : St), va_D A (wg9 cI cZ d0 S0) := fun S0 => q_D hD1 rfl
  have hl := lv_entry ([.ref (d0 0), .int p0]) (n := 2) (Nat.le_of_ble_eq_true rfl)
  rw [lg_entry_eq]
  generalize (lg_sl ([.ref (d0 0), .int p0]) ++ List.replicate (2 - (lg_sl ([.ref (d0 0), .int p0])).length) Slot.unset).toArray = ls at hl ⊢
  have hl : lv_has ls 2 [(0, .ref (d0 0)), (1, .int p0)] := hl
  have ht := (xX9_back_s p0 S0).symm.trans ht
  refine lv_aload_n hx hb dX9_back_0 rfl (lv_at hl 0 rfl) ?_
  refine lv_iconst (v := 1) hx hb dX9_back_1 (by decide) ?_
  obtain ⟨q1, hq1, ht⟩ := it_b ht
  have hFc := q_freeW (hD S0) hS hA
  refine q_mv (va_runV (As := [.int 1]) (rest := []) ⟨hx, hb, hml, hown, hts⟩ (kX9_carryAll l D cI cZ cO d0 s.heap.size S0 1 q1 hq1) (cwV 1 hts gX9_back_X9_carryAll rfl rfl rfl (by decide +kernel) ⟨Nat.le_of_ble_eq_true rfl, Nat.le_of_ble_eq_true rfl⟩) (q_mV (As := [.int 1]) hE hP (hD S0) (q0 := 0) (ci := 9) rfl rfl) rfl rfl hl.1 rfl (lv_room (Nat.le_of_ble_eq_true rfl)) dX9_back_2 ⟨Nat.le_of_ble_eq_true rfl, Nat.le_of_ble_eq_true rfl⟩) hS hFc (fun H locs hP1 hk hS => ?_)
  have hP : va_P D vwCl (wg9 cI cZ d0 q1) H := hP1
  refine lv_iload_n hx hb dX9_back_5 rfl (lv_at hl 1 rfl) ?_
  obtain rfl := Option.some.inj ht
  exact W.iret (v := p0) hx hb hr (fun t e1 hW => ⟨⟨_, (), rfl, ⟨rfl, trivial⟩, q_at e1 hP⟩, hS.F e1⟩) hS.2.2 dX9_back_6
abbrev rmX9_goOne : Room := { frames := 4, cells := 0, slots := 0, locals := 89 }
set_option maxHeartbeats 4000000 in
set_option maxRecDepth 100000 in
theorem kX9_goOne (l : Launch) (D : va_G) (cI cZ cO : ClassId) (d0 : Nat → Nat) (sz : Nat) (S0 : St) (p0 : Int32) (tg : St) (ht : xX9_goOne p0 S0 = some tg) : Met l yX9_goOne wsX9_goOne rmX9_goOne (q_PM D cI cZ cO [.ref (d0 0), .int p0] sz (wg9 cI cZ d0 S0)) (va_Qv (fun _ : Unit => True) (fun _ t => va_P D vwCl (wg9 cI cZ d0 tg) t.heap) (va_A (wg9 cI cZ d0 S0) sz)) 0 0 (va_A (wg9 cI cZ d0 S0) sz) := by
  refine Met.ofW (cc := cX9_goOne) (maxL := 2) (ret := none) (by decide) rfl ?_
  intro p e s m args below meth c s₁ B hml hv
  obtain ⟨rfl, hsz, hE, hP, hD0⟩ := hv
  have hx := B.exec
  have hb := B.bytes
  have hr := B.returns
  have hts := atoms_spec (ws := wsX9_goOne) B.pre
  have hown : s.vm.findClass RX9 = some m.cls := findClass_of_methodNamed B.named
  have hlocks := B.notSynchronized
  have hi9 : ∀ w ∈ u_ws RX9 TX9 37, w ∈ wsX9_goOne := by decide +kernel
  have hw0 := hts (.fieldLink RX9 49 "HailNamesModel" "act" "[I") (by decide +kernel)
  have hw1 := hts (.fieldLink RX9 52 "HailNamesModel" "who" "[I") (by decide +kernel)
  have hw2 := hts (.fieldLink RX9 55 "HailNamesModel" "whom" "[I") (by decide +kernel)
  have hw3 := hts (.fieldLink RX9 165 "HailNamesModel" "lostNow" "I") (by decide +kernel)
  have hw4 := hts (.fieldLink RX9 207 "HailNamesModel" "lostAct" "I") (by decide +kernel)
  have hw5 := hts (.fieldLink RX9 210 "HailNamesModel" "lostWhose" "I") (by decide +kernel)
  subst hsz
  have hD1 := hD0.self (sz := s.heap.size)
  generalize hAe : va_A (wg9 cI cZ d0 S0) s.heap.size = A at hD1 ⊢
  have hA : ∀ q : Nat, s.heap.size ≤ q → A q := fun q h => by rw [← hAe]; exact Or.inr h
  have hS : va_S A s.heap s.heap [] := va_S.rf
  have hD : ∀ (S0 : St), va_D A (wg9 cI cZ d0 S0) := fun S0 => q_D hD1 rfl
  have hl := lv_entry ([.ref (d0 0), .int p0]) (n := 2) (Nat.le_of_ble_eq_true rfl)
  rw [lg_entry_eq]
  generalize (lg_sl ([.ref (d0 0), .int p0]) ++ List.replicate (2 - (lg_sl ([.ref (d0 0), .int p0])).length) Slot.unset).toArray = ls at hl ⊢
  have hl : lv_has ls 2 [(0, .ref (d0 0)), (1, .int p0)] := hl
  have ht := (xX9_goOne_s p0 S0).symm.trans ht
  refine lv_aload_n hx hb dX9_goOne_0 rfl (lv_at hl 0 rfl) ?_
  refine lv_aload_n hx hb dX9_goOne_1 rfl (lv_at hl 0 rfl) ?_
  refine va_get (D := D) (ci := 9) (v := .ref (d0 18)) (C := RX9) (T := TX9) (N := 37) hx hb hts hi9 hown hE.1 hP 0 rfl rfl 17 (by decide) hw0 (fun _ h9 => h9) rfl dX9_goOne_2 ?_
  refine lv_iload_n hx hb dX9_goOne_5 rfl (lv_at hl 1 rfl) ?_
  obtain ⟨g1, ht⟩ := it_g ht
  refine va_iald hx hb hE.1 hP 14 0 rfl rfl (q_in g1) dX9_goOne_6 ?_
  refine lv_aload_n hx hb dX9_goOne_7 rfl (lv_at hl 0 rfl) ?_
  refine va_get (D := D) (ci := 9) (v := .ref (d0 19)) (C := RX9) (T := TX9) (N := 37) hx hb hts hi9 hown hE.1 hP 0 rfl rfl 18 (by decide) hw1 (fun _ h9 => h9) rfl dX9_goOne_8 ?_
  refine lv_iload_n hx hb dX9_goOne_11 rfl (lv_at hl 1 rfl) ?_
  refine va_iald hx hb hE.1 hP 15 0 rfl rfl (q_in g1) dX9_goOne_12 ?_
  refine lv_aload_n hx hb dX9_goOne_13 rfl (lv_at hl 0 rfl) ?_
  refine va_get (D := D) (ci := 9) (v := .ref (d0 20)) (C := RX9) (T := TX9) (N := 37) hx hb hts hi9 hown hE.1 hP 0 rfl rfl 19 (by decide) hw2 (fun _ h9 => h9) rfl dX9_goOne_14 ?_
  refine lv_iload_n hx hb dX9_goOne_17 rfl (lv_at hl 1 rfl) ?_
  refine va_iald hx hb hE.1 hP 16 0 rfl rfl (q_in g1) dX9_goOne_18 ?_
  obtain ⟨q2, hq2, ht⟩ := it_b ht
  have hFc := q_freeW (hD S0) hS hA
  refine q_mv (va_runV (As := [.int (S0 17 p0.toNatClampNeg), .int (S0 18 p0.toNatClampNeg), .int (S0 19 p0.toNatClampNeg)]) (rest := []) ⟨hx, hb, hml, hown, hts⟩ (kX9_happen l D cI cZ cO d0 s.heap.size S0 (S0 17 p0.toNatClampNeg) (S0 18 p0.toNatClampNeg) (S0 19 p0.toNatClampNeg) q2 hq2) (cwV 3 hts gX9_goOne_X9_happen rfl rfl rfl (by decide +kernel) ⟨Nat.le_of_ble_eq_true rfl, Nat.le_of_ble_eq_true rfl⟩) (q_mV (As := [.int (S0 17 p0.toNatClampNeg), .int (S0 18 p0.toNatClampNeg), .int (S0 19 p0.toNatClampNeg)]) hE hP (hD S0) (q0 := 0) (ci := 9) rfl rfl) rfl rfl hl.1 rfl (lv_room (Nat.le_of_ble_eq_true rfl)) dX9_goOne_19 ⟨Nat.le_of_ble_eq_true rfl, Nat.le_of_ble_eq_true rfl⟩) hS hFc (fun H locs hP1 hk hS => ?_)
  have hP : va_P D vwCl (wg9 cI cZ d0 q2) H := hP1
  refine lv_aload_n hx hb dX9_goOne_22 rfl (lv_at hl 0 rfl) ?_
  refine va_get (D := D) (ci := 9) (v := .int (q2 22 0)) (C := RX9) (T := TX9) (N := 37) hx hb hts hi9 hown hE.1 hP 0 rfl rfl 22 (by decide) hw3 (fun _ h9 => h9) rfl dX9_goOne_23 ?_
  refine lv_if_lt (tgt := 49) hx hb dX9_goOne_26 (by decide) (fun c3 => ?_) (fun c3 => ?_)
  · have ht := it_p c3 ht
    obtain rfl := Option.some.inj ht
    exact W.vret hx hb hr (fun t e1 hW => ⟨⟨(), rfl, trivial, q_at e1 hP⟩, hS.F e1⟩) hS.2.2 dX9_goOne_49
  · have ht := it_n c3 ht
    refine lv_aload_n hx hb dX9_goOne_29 rfl (lv_at hl 0 rfl) ?_
    refine va_get (D := D) (ci := 9) (v := .int (q2 28 0)) (C := RX9) (T := TX9) (N := 37) hx hb hts hi9 hown hE.1 hP 0 rfl rfl 28 (by decide) hw4 (fun _ h9 => h9) rfl dX9_goOne_30 ?_
    refine lv_if_ge (tgt := 49) hx hb dX9_goOne_33 (by decide) (fun c4 => ?_) (fun c4 => ?_)
    · have ht := it_p c4 ht
      obtain rfl := Option.some.inj ht
      exact W.vret hx hb hr (fun t e1 hW => ⟨⟨(), rfl, trivial, q_at e1 hP⟩, hS.F e1⟩) hS.2.2 dX9_goOne_49
    · have ht := it_n c4 ht
      refine lv_aload_n hx hb dX9_goOne_36 rfl (lv_at hl 0 rfl) ?_
      refine lv_iload_n hx hb dX9_goOne_37 rfl (lv_at hl 1 rfl) ?_
      refine va_put (D := D) (ci := 9) (v := .int p0) (ty := .int) (C := RX9) (T := TX9) (N := 37) hx hb hts hi9 tyX9 tyX9_ok nmX9 hown hE.1 hP (hD _) hS 0 rfl rfl 28 (by decide) hw4 (fun _ h9 => h9) rfl (by decide +kernel) rfl rfl (Nat.le_of_ble_eq_true rfl) dX9_goOne_38 (fun H locs hP _ hS => ?_)
      have hP : va_P D vwCl (wg9 cI cZ d0 (q_su q2 28 0 p0)) H := hP
      obtain ⟨T5, eT5⟩ : ∃ z : St, z = q_su q2 28 0 p0 := ⟨_, rfl⟩
      rw [← eT5] at hP
      have ht := it_l ht eT5
      refine lv_aload_n hx hb dX9_goOne_41 rfl (lv_at hl 0 rfl) ?_
      refine lv_aload_n hx hb dX9_goOne_42 rfl (lv_at hl 0 rfl) ?_
      refine va_get (D := D) (ci := 9) (v := .int (T5 22 0)) (C := RX9) (T := TX9) (N := 37) hx hb hts hi9 hown hE.1 hP 0 rfl rfl 22 (by decide) hw3 (fun _ h9 => h9) rfl dX9_goOne_43 ?_
      refine va_put (D := D) (ci := 9) (v := .int (T5 22 0)) (ty := .int) (C := RX9) (T := TX9) (N := 37) hx hb hts hi9 tyX9 tyX9_ok nmX9 hown hE.1 hP (hD _) hS 0 rfl rfl 29 (by decide) hw5 (fun _ h9 => h9) rfl (by decide +kernel) rfl rfl (Nat.le_of_ble_eq_true rfl) dX9_goOne_46 (fun H locs hP _ hS => ?_)
      have hP : va_P D vwCl (wg9 cI cZ d0 (q_su T5 29 0 (T5 22 0))) H := hP
      obtain ⟨T6, eT6⟩ : ∃ z : St, z = q_su T5 29 0 (T5 22 0) := ⟨_, rfl⟩
      rw [← eT6] at hP
      have ht := it_l ht eT6
      obtain rfl := Option.some.inj ht
      exact W.vret hx hb hr (fun t e1 hW => ⟨⟨(), rfl, trivial, q_at e1 hP⟩, hS.F e1⟩) hS.2.2 dX9_goOne_49
abbrev rmX9_goStorms : Room := { frames := 5, cells := 0, slots := 0, locals := 110 }
set_option maxHeartbeats 4000000 in
set_option maxRecDepth 100000 in
theorem kX9_goStorms (l : Launch) (D : va_G) (cI cZ cO : ClassId) (d0 : Nat → Nat) (sz : Nat) (S0 : St) (tg : St) (ht : xX9_goStorms S0 = some tg) : Met l yX9_goStorms wsX9_goStorms rmX9_goStorms (q_PM D cI cZ cO [.ref (d0 0)] sz (wg9 cI cZ d0 S0)) (va_Qv (fun _ : Unit => True) (fun _ t => va_P D vwCl (wg9 cI cZ d0 tg) t.heap) (va_A (wg9 cI cZ d0 S0) sz)) 0 0 (va_A (wg9 cI cZ d0 S0) sz) := by
  refine Met.ofW (cc := cX9_goStorms) (maxL := 3) (ret := none) (by decide) rfl ?_
  intro p e s m args below meth c s₁ B hml hv
  obtain ⟨rfl, hsz, hE, hP, hD0⟩ := hv
  have hx := B.exec
  have hb := B.bytes
  have hr := B.returns
  have hts := atoms_spec (ws := wsX9_goStorms) B.pre
  have hown : s.vm.findClass RX9 = some m.cls := findClass_of_methodNamed B.named
  have hlocks := B.notSynchronized
  have hi9 : ∀ w ∈ u_ws RX9 TX9 37, w ∈ wsX9_goStorms := by decide +kernel
  have hw0 := hts (.fieldLink RX9 213 "HailNamesModel" "badAct" "I") (by decide +kernel)
  have hw1 := hts (.fieldLink RX9 216 "HailNamesModel" "badWhy" "I") (by decide +kernel)
  have hw2 := hts (.fieldLink RX9 207 "HailNamesModel" "lostAct" "I") (by decide +kernel)
  have hw3 := hts (.fieldLink RX9 210 "HailNamesModel" "lostWhose" "I") (by decide +kernel)
  have hw4 := hts (.fieldLink RX9 162 "HailNamesModel" "lostAll" "I") (by decide +kernel)
  have hw5 := hts (.fieldLink RX9 118 "HailNamesModel" "acts" "I") (by decide +kernel)
  have hw6 := hts (.fieldLink RX9 49 "HailNamesModel" "act" "[I") (by decide +kernel)
  have hw7 := hts (.fieldLink RX9 52 "HailNamesModel" "who" "[I") (by decide +kernel)
  have hw8 := hts (.fieldLink RX9 55 "HailNamesModel" "whom" "[I") (by decide +kernel)
  subst hsz
  have hD1 := hD0.self (sz := s.heap.size)
  generalize hAe : va_A (wg9 cI cZ d0 S0) s.heap.size = A at hD1 ⊢
  have hA : ∀ q : Nat, s.heap.size ≤ q → A q := fun q h => by rw [← hAe]; exact Or.inr h
  have hS : va_S A s.heap s.heap [] := va_S.rf
  have hD : ∀ (S0 : St), va_D A (wg9 cI cZ d0 S0) := fun S0 => q_D hD1 rfl
  have hl := lv_entry ([.ref (d0 0)]) (n := 3) (Nat.le_of_ble_eq_true rfl)
  rw [lg_entry_eq]
  generalize (lg_sl ([.ref (d0 0)]) ++ List.replicate (3 - (lg_sl ([.ref (d0 0)])).length) Slot.unset).toArray = ls at hl ⊢
  have hl : lv_has ls 3 [(0, .ref (d0 0))] := hl
  have ht := (xX9_goStorms_s S0).symm.trans ht
  obtain ⟨Q, hQ⟩ : ∃ Q, Q = MQ below (va_Qv (fun _ : Unit => True) (fun _ t => va_P D vwCl (wg9 cI cZ d0 tg) t.heap) A) ([.ref (d0 0)] : List Value).toArray s 0 0 A := ⟨_, rfl⟩
  rw [← hQ]
  have L31 : ∀ (n : Nat) (x1 : Int32) (S0 : St) (H : Heap) (locs : List Loc) (_ : va_P D vwCl (wg9 cI cZ d0 S0) H) (_ : va_S A s.heap H locs) (ls : Array Slot) (_ : lv_has ls 3 [(0, .ref (d0 0)), (1, .int x1)]) (_ : xX9_goStorms_h31 n x1 S0 = some tg), W p l e (headSpec wsX9_goStorms rmX9_goStorms).room s m ([.ref (d0 0)] : List Value).toArray below meth c H locs 0 0 Q (F0 m 31 ls []) := by
    intro n
    induction n with
    | zero =>
      intro x1 S0 H locs hP hS ls hl ht
      exact it_z ht
    | succ n31 ih31 =>
      intro x1 S0 H locs hP hS ls hl ht
      have ht := (xX9_goStorms_h31_s n31 x1 S0).symm.trans ht
      have J80 : ∀ (x1 : Int32) (x2 : Int32) (z1 : Int32) (S0 : St) (H : Heap) (locs : List Loc) (_ : va_P D vwCl (wg9 cI cZ d0 S0) H) (_ : va_S A s.heap H locs) (ls : Array Slot) (_ : lv_has ls 3 [(0, .ref (d0 0)), (1, .int x1), (2, .int x2)]) (_ : xX9_goStorms_h80 (xX9_goStorms_h31 n31) x1 x2 z1 S0 = some tg), W p l e (headSpec wsX9_goStorms rmX9_goStorms).room s m ([.ref (d0 0)] : List Value).toArray below meth c H locs 0 0 Q (F0 m 80 ls [.int z1, .ref (d0 0)]) := by
        intro x1 x2 z1 S0 H locs hP hS ls hl ht
        have ht := (xX9_goStorms_h80_s (xX9_goStorms_h31 n31) x1 x2 z1 S0).symm.trans ht
        have J94 : ∀ (x1 : Int32) (x2 : Int32) (z1 : Int32) (S0 : St) (H : Heap) (locs : List Loc) (_ : va_P D vwCl (wg9 cI cZ d0 S0) H) (_ : va_S A s.heap H locs) (ls : Array Slot) (_ : lv_has ls 3 [(0, .ref (d0 0)), (1, .int x1), (2, .int x2)]) (_ : xX9_goStorms_h94 (xX9_goStorms_h31 n31) x1 x2 z1 S0 = some tg), W p l e (headSpec wsX9_goStorms rmX9_goStorms).room s m ([.ref (d0 0)] : List Value).toArray below meth c H locs 0 0 Q (F0 m 94 ls [.int z1, .ref (d0 0)]) := by
          intro x1 x2 z1 S0 H locs hP hS ls hl ht
          have ht := (xX9_goStorms_h94_s (xX9_goStorms_h31 n31) x1 x2 z1 S0).symm.trans ht
          refine va_put (D := D) (ci := 9) (v := .int z1) (ty := .int) (C := RX9) (T := TX9) (N := 37) hx hb hts hi9 tyX9 tyX9_ok nmX9 hown hE.1 hP (hD _) hS 0 rfl rfl 27 (by decide) hw1 (fun _ h9 => h9) rfl (by decide +kernel) rfl rfl (Nat.le_of_ble_eq_true rfl) dX9_goStorms_94 (fun H locs hP _ hS => ?_)
          have hP : va_P D vwCl (wg9 cI cZ d0 (q_su S0 27 0 z1)) H := hP
          obtain ⟨T14, eT14⟩ : ∃ z : St, z = q_su S0 27 0 z1 := ⟨_, rfl⟩
          rw [← eT14] at hP
          have ht := it_l ht eT14
          refine lv_iload_n hx hb dX9_goStorms_97 rfl (lv_at hl 2 rfl) ?_
          refine lv_if_ne (tgt := 106) hx hb dX9_goStorms_98 (by decide) (fun c15 => ?_) (fun c15 => ?_)
          · have ht := it_n c15 ht
            refine lv_iinc (v := x1 + 1) (lv' := [(1, .int (x1 + 1)), (0, .ref (d0 0)), (2, .int x2)]) hx hb dX9_goStorms_106 hl (k := 1) rfl rfl (by decide) rfl (fun ls hl => ?_)
            refine lv_goto (tgt := 31) hx hb dX9_goStorms_109 (by decide) ?_
            exact ih31 (x1 + 1) T14 _ _ hP hS ls (lv_sub hl [1, 0] rfl) ht
          · have ht := it_p c15 ht
            refine lv_aload_n hx hb dX9_goStorms_101 rfl (lv_at hl 0 rfl) ?_
            refine lv_iload_n hx hb dX9_goStorms_102 rfl (lv_at hl 1 rfl) ?_
            obtain ⟨q16, hq16, ht⟩ := it_b ht
            have hFc := q_freeW (hD T14) hS hA
            refine q_mv (va_runV (As := [.int x1]) (rest := []) ⟨hx, hb, hml, hown, hts⟩ (kX9_goOne l D cI cZ cO d0 H.size T14 x1 q16 hq16) (cwV 1 hts gX9_goStorms_X9_goOne rfl rfl rfl (by decide +kernel) ⟨Nat.le_of_ble_eq_true rfl, Nat.le_of_ble_eq_true rfl⟩) (q_mV (As := [.int x1]) hE hP (hD T14) (q0 := 0) (ci := 9) rfl rfl) rfl rfl hl.1 rfl (lv_room (Nat.le_of_ble_eq_true rfl)) dX9_goStorms_103 ⟨Nat.le_of_ble_eq_true rfl, Nat.le_of_ble_eq_true rfl⟩) hS hFc (fun H locs hP1 hk hS => ?_)
            have hP : va_P D vwCl (wg9 cI cZ d0 q16) H := hP1
            refine lv_iinc (v := x1 + 1) (lv' := [(1, .int (x1 + 1)), (0, .ref (d0 0)), (2, .int x2)]) hx hb dX9_goStorms_106 hl (k := 1) rfl rfl (by decide) rfl (fun ls hl => ?_)
            refine lv_goto (tgt := 31) hx hb dX9_goStorms_109 (by decide) ?_
            exact ih31 (x1 + 1) q16 _ _ hP hS ls (lv_sub hl [1, 0] rfl) ht
        refine va_put (D := D) (ci := 9) (v := .int z1) (ty := .int) (C := RX9) (T := TX9) (N := 37) hx hb hts hi9 tyX9 tyX9_ok nmX9 hown hE.1 hP (hD _) hS 0 rfl rfl 26 (by decide) hw0 (fun _ h9 => h9) rfl (by decide +kernel) rfl rfl (Nat.le_of_ble_eq_true rfl) dX9_goStorms_80 (fun H locs hP _ hS => ?_)
        have hP : va_P D vwCl (wg9 cI cZ d0 (q_su S0 26 0 z1)) H := hP
        obtain ⟨T12, eT12⟩ : ∃ z : St, z = q_su S0 26 0 z1 := ⟨_, rfl⟩
        rw [← eT12] at hP
        have ht := it_l ht eT12
        refine lv_aload_n hx hb dX9_goStorms_83 rfl (lv_at hl 0 rfl) ?_
        refine lv_iload_n hx hb dX9_goStorms_84 rfl (lv_at hl 2 rfl) ?_
        refine lv_if_le (tgt := 92) hx hb dX9_goStorms_85 (by decide) (fun c13 => ?_) (fun c13 => ?_)
        · have ht := it_p c13 ht
          refine lv_bipush (v := (-6)) hx hb dX9_goStorms_92 (by decide) ?_
          exact J94 x1 x2 (-6) T12 _ _ hP hS ls (lv_sub hl [0, 1, 2] rfl) ht
        · have ht := it_n c13 ht
          refine lv_iload_n hx hb dX9_goStorms_88 rfl (lv_at hl 2 rfl) ?_
          refine lv_goto (tgt := 94) hx hb dX9_goStorms_89 (by decide) ?_
          exact J94 x1 x2 x2 T12 _ _ hP hS ls (lv_sub hl [0, 1, 2] rfl) ht
      refine lv_iload_n hx hb dX9_goStorms_31 rfl (lv_at hl 1 rfl) ?_
      refine lv_aload_n hx hb dX9_goStorms_32 rfl (lv_at hl 0 rfl) ?_
      refine va_get (D := D) (ci := 9) (v := .int (S0 20 0)) (C := RX9) (T := TX9) (N := 37) hx hb hts hi9 hown hE.1 hP 0 rfl rfl 20 (by decide) hw5 (fun _ h9 => h9) rfl dX9_goStorms_33 ?_
      refine lv_icmp_ge (tgt := 112) hx hb dX9_goStorms_36 (by decide) (fun c6 => ?_) (fun c6 => ?_)
      · have ht := it_p c6 ht
        subst hQ
        obtain rfl := Option.some.inj ht
        exact W.vret hx hb hr (fun t e1 hW => ⟨⟨(), rfl, trivial, q_at e1 hP⟩, hS.F e1⟩) hS.2.2 dX9_goStorms_112
      · have ht := it_n c6 ht
        refine lv_aload_n hx hb dX9_goStorms_39 rfl (lv_at hl 0 rfl) ?_
        refine va_get (D := D) (ci := 9) (v := .int (S0 26 0)) (C := RX9) (T := TX9) (N := 37) hx hb hts hi9 hown hE.1 hP 0 rfl rfl 26 (by decide) hw0 (fun _ h9 => h9) rfl dX9_goStorms_40 ?_
        refine lv_if_ge (tgt := 112) hx hb dX9_goStorms_43 (by decide) (fun c7 => ?_) (fun c7 => ?_)
        · have ht := it_p c7 ht
          subst hQ
          obtain rfl := Option.some.inj ht
          exact W.vret hx hb hr (fun t e1 hW => ⟨⟨(), rfl, trivial, q_at e1 hP⟩, hS.F e1⟩) hS.2.2 dX9_goStorms_112
        · have ht := it_n c7 ht
          refine lv_aload_n hx hb dX9_goStorms_46 rfl (lv_at hl 0 rfl) ?_
          refine lv_aload_n hx hb dX9_goStorms_47 rfl (lv_at hl 0 rfl) ?_
          refine va_get (D := D) (ci := 9) (v := .ref (d0 18)) (C := RX9) (T := TX9) (N := 37) hx hb hts hi9 hown hE.1 hP 0 rfl rfl 17 (by decide) hw6 (fun _ h9 => h9) rfl dX9_goStorms_48 ?_
          refine lv_iload_n hx hb dX9_goStorms_51 rfl (lv_at hl 1 rfl) ?_
          obtain ⟨g8, ht⟩ := it_g ht
          refine va_iald hx hb hE.1 hP 14 0 rfl rfl (q_in g8) dX9_goStorms_52 ?_
          refine lv_aload_n hx hb dX9_goStorms_53 rfl (lv_at hl 0 rfl) ?_
          refine va_get (D := D) (ci := 9) (v := .ref (d0 19)) (C := RX9) (T := TX9) (N := 37) hx hb hts hi9 hown hE.1 hP 0 rfl rfl 18 (by decide) hw7 (fun _ h9 => h9) rfl dX9_goStorms_54 ?_
          refine lv_iload_n hx hb dX9_goStorms_57 rfl (lv_at hl 1 rfl) ?_
          refine va_iald hx hb hE.1 hP 15 0 rfl rfl (q_in g8) dX9_goStorms_58 ?_
          refine lv_aload_n hx hb dX9_goStorms_59 rfl (lv_at hl 0 rfl) ?_
          refine va_get (D := D) (ci := 9) (v := .ref (d0 20)) (C := RX9) (T := TX9) (N := 37) hx hb hts hi9 hown hE.1 hP 0 rfl rfl 19 (by decide) hw8 (fun _ h9 => h9) rfl dX9_goStorms_60 ?_
          refine lv_iload_n hx hb dX9_goStorms_63 rfl (lv_at hl 1 rfl) ?_
          refine va_iald hx hb hE.1 hP 16 0 rfl rfl (q_in g8) dX9_goStorms_64 ?_
          obtain ⟨q9, hq9, ht⟩ := it_b ht
          refine q_ri (va_runV (As := [.int (S0 17 x1.toNatClampNeg), .int (S0 18 x1.toNatClampNeg), .int (S0 19 x1.toNatClampNeg)]) (rest := []) ⟨hx, hb, hml, hown, hts⟩ (kX9_whyNot l D cI cZ cO d0 S0 (S0 17 x1.toNatClampNeg) (S0 18 x1.toNatClampNeg) (S0 19 x1.toNatClampNeg) q9 hq9) (cwV 3 hts gX9_goStorms_X9_whyNot rfl rfl rfl (by decide +kernel) ⟨Nat.le_of_ble_eq_true rfl, Nat.le_of_ble_eq_true rfl⟩) (q_rV (As := [.int (S0 17 x1.toNatClampNeg), .int (S0 18 x1.toNatClampNeg), .int (S0 19 x1.toNatClampNeg)]) hE hP (q0 := 0) (ci := 9) rfl rfl) rfl rfl hl.1 rfl (lv_room (Nat.le_of_ble_eq_true rfl)) dX9_goStorms_65 ⟨Nat.le_of_ble_eq_true rfl, Nat.le_of_ble_eq_true rfl⟩) (fun b10 => ?_)
          refine lv_istore_n (lv' := [(2, .int q9), (0, .ref (d0 0)), (1, .int x1)]) hx hb dX9_goStorms_68 rfl hl (by decide) rfl (fun ls hl => ?_)
          refine lv_aload_n hx hb dX9_goStorms_69 rfl (lv_at hl 1 rfl) ?_
          refine lv_iload_n hx hb dX9_goStorms_70 rfl (lv_at hl 0 rfl) ?_
          refine lv_if_le (tgt := 78) hx hb dX9_goStorms_71 (by decide) (fun c11 => ?_) (fun c11 => ?_)
          · have ht := it_p c11 ht
            refine lv_bipush (v := (-6)) hx hb dX9_goStorms_78 (by decide) ?_
            exact J80 x1 q9 (-6) S0 _ _ hP hS ls (lv_sub hl [1, 2, 0] rfl) ht
          · have ht := it_n c11 ht
            refine lv_iload_n hx hb dX9_goStorms_74 rfl (lv_at hl 2 rfl) ?_
            refine lv_goto (tgt := 80) hx hb dX9_goStorms_75 (by decide) ?_
            exact J80 x1 q9 x1 S0 _ _ hP hS ls (lv_sub hl [1, 2, 0] rfl) ht
  refine lv_aload_n hx hb dX9_goStorms_0 rfl (lv_at hl 0 rfl) ?_
  refine lv_bipush (v := (-6)) hx hb dX9_goStorms_1 (by decide) ?_
  refine va_put (D := D) (ci := 9) (v := .int (-6)) (ty := .int) (C := RX9) (T := TX9) (N := 37) hx hb hts hi9 tyX9 tyX9_ok nmX9 hown hE.1 hP (hD _) hS 0 rfl rfl 26 (by decide) hw0 (fun _ h9 => h9) rfl (by decide +kernel) rfl rfl (Nat.le_of_ble_eq_true rfl) dX9_goStorms_3 (fun H locs hP _ hS => ?_)
  have hP : va_P D vwCl (wg9 cI cZ d0 (q_su S0 26 0 (-6))) H := hP
  obtain ⟨T1, eT1⟩ : ∃ z : St, z = q_su S0 26 0 (-6) := ⟨_, rfl⟩
  rw [← eT1] at hP
  have ht := it_l ht eT1
  refine lv_aload_n hx hb dX9_goStorms_6 rfl (lv_at hl 0 rfl) ?_
  refine lv_bipush (v := (-6)) hx hb dX9_goStorms_7 (by decide) ?_
  refine va_put (D := D) (ci := 9) (v := .int (-6)) (ty := .int) (C := RX9) (T := TX9) (N := 37) hx hb hts hi9 tyX9 tyX9_ok nmX9 hown hE.1 hP (hD _) hS 0 rfl rfl 27 (by decide) hw1 (fun _ h9 => h9) rfl (by decide +kernel) rfl rfl (Nat.le_of_ble_eq_true rfl) dX9_goStorms_9 (fun H locs hP _ hS => ?_)
  have hP : va_P D vwCl (wg9 cI cZ d0 (q_su T1 27 0 (-6))) H := hP
  obtain ⟨T2, eT2⟩ : ∃ z : St, z = q_su T1 27 0 (-6) := ⟨_, rfl⟩
  rw [← eT2] at hP
  have ht := it_l ht eT2
  refine lv_aload_n hx hb dX9_goStorms_12 rfl (lv_at hl 0 rfl) ?_
  refine lv_bipush (v := (-6)) hx hb dX9_goStorms_13 (by decide) ?_
  refine va_put (D := D) (ci := 9) (v := .int (-6)) (ty := .int) (C := RX9) (T := TX9) (N := 37) hx hb hts hi9 tyX9 tyX9_ok nmX9 hown hE.1 hP (hD _) hS 0 rfl rfl 28 (by decide) hw2 (fun _ h9 => h9) rfl (by decide +kernel) rfl rfl (Nat.le_of_ble_eq_true rfl) dX9_goStorms_15 (fun H locs hP _ hS => ?_)
  have hP : va_P D vwCl (wg9 cI cZ d0 (q_su T2 28 0 (-6))) H := hP
  obtain ⟨T3, eT3⟩ : ∃ z : St, z = q_su T2 28 0 (-6) := ⟨_, rfl⟩
  rw [← eT3] at hP
  have ht := it_l ht eT3
  refine lv_aload_n hx hb dX9_goStorms_18 rfl (lv_at hl 0 rfl) ?_
  refine lv_bipush (v := (-6)) hx hb dX9_goStorms_19 (by decide) ?_
  refine va_put (D := D) (ci := 9) (v := .int (-6)) (ty := .int) (C := RX9) (T := TX9) (N := 37) hx hb hts hi9 tyX9 tyX9_ok nmX9 hown hE.1 hP (hD _) hS 0 rfl rfl 29 (by decide) hw3 (fun _ h9 => h9) rfl (by decide +kernel) rfl rfl (Nat.le_of_ble_eq_true rfl) dX9_goStorms_21 (fun H locs hP _ hS => ?_)
  have hP : va_P D vwCl (wg9 cI cZ d0 (q_su T3 29 0 (-6))) H := hP
  obtain ⟨T4, eT4⟩ : ∃ z : St, z = q_su T3 29 0 (-6) := ⟨_, rfl⟩
  rw [← eT4] at hP
  have ht := it_l ht eT4
  refine lv_aload_n hx hb dX9_goStorms_24 rfl (lv_at hl 0 rfl) ?_
  refine lv_iconst (v := 0) hx hb dX9_goStorms_25 (by decide) ?_
  refine va_put (D := D) (ci := 9) (v := .int 0) (ty := .int) (C := RX9) (T := TX9) (N := 37) hx hb hts hi9 tyX9 tyX9_ok nmX9 hown hE.1 hP (hD _) hS 0 rfl rfl 21 (by decide) hw4 (fun _ h9 => h9) rfl (by decide +kernel) rfl rfl (Nat.le_of_ble_eq_true rfl) dX9_goStorms_26 (fun H locs hP _ hS => ?_)
  have hP : va_P D vwCl (wg9 cI cZ d0 (q_su T4 21 0 0)) H := hP
  obtain ⟨T5, eT5⟩ : ∃ z : St, z = q_su T4 21 0 0 := ⟨_, rfl⟩
  rw [← eT5] at hP
  have ht := it_l ht eT5
  refine lv_iconst (v := 0) hx hb dX9_goStorms_29 (by decide) ?_
  refine lv_istore_n (lv' := [(1, .int 0), (0, .ref (d0 0))]) hx hb dX9_goStorms_30 rfl hl (by decide) rfl (fun ls hl => ?_)
  exact L31 5000 0 T5 _ _ hP hS ls (lv_sub hl [1, 0] rfl) ht
abbrev rmX9_refusal : Room := { frames := 6, cells := 0, slots := 0, locals := 132 }
set_option maxHeartbeats 4000000 in
set_option maxRecDepth 100000 in
theorem kX9_refusal (l : Launch) (D : va_G) (cI cZ cO : ClassId) (d0 : Nat → Nat) (sz : Nat) (S0 : St) (tg : Int32 × St) (ht : xX9_refusal S0 = some tg) : Met l yX9_refusal wsX9_refusal rmX9_refusal (q_PM D cI cZ cO [.ref (d0 0)] sz (wg9 cI cZ d0 S0)) (va_Qi (fun x (_ : Unit) => x = tg.1 ∧ True) (fun _ t => va_P D vwCl (wg9 cI cZ d0 tg.2) t.heap) (va_A (wg9 cI cZ d0 S0) sz)) 0 0 (va_A (wg9 cI cZ d0 S0) sz) := by
  refine Met.ofW (cc := cX9_refusal) (maxL := 1) (ret := (some .int)) (by decide) rfl ?_
  intro p e s m args below meth c s₁ B hml hv
  obtain ⟨rfl, hsz, hE, hP, hD0⟩ := hv
  have hx := B.exec
  have hb := B.bytes
  have hr := B.returns
  have hts := atoms_spec (ws := wsX9_refusal) B.pre
  have hown : s.vm.findClass RX9 = some m.cls := findClass_of_methodNamed B.named
  have hlocks := B.notSynchronized
  have hi9 : ∀ w ∈ u_ws RX9 TX9 37, w ∈ wsX9_refusal := by decide +kernel
  have hw0 := hts (.fieldLink RX9 213 "HailNamesModel" "badAct" "I") (by decide +kernel)
  subst hsz
  have hD1 := hD0.self (sz := s.heap.size)
  generalize hAe : va_A (wg9 cI cZ d0 S0) s.heap.size = A at hD1 ⊢
  have hA : ∀ q : Nat, s.heap.size ≤ q → A q := fun q h => by rw [← hAe]; exact Or.inr h
  have hS : va_S A s.heap s.heap [] := va_S.rf
  have hD : ∀ (S0 : St), va_D A (wg9 cI cZ d0 S0) := fun S0 => q_D hD1 rfl
  have hl := lv_entry ([.ref (d0 0)]) (n := 1) (Nat.le_of_ble_eq_true rfl)
  rw [lg_entry_eq]
  generalize (lg_sl ([.ref (d0 0)]) ++ List.replicate (1 - (lg_sl ([.ref (d0 0)])).length) Slot.unset).toArray = ls at hl ⊢
  have hl : lv_has ls 1 [(0, .ref (d0 0))] := hl
  have ht := (xX9_refusal_s S0).symm.trans ht
  refine lv_aload_n hx hb dX9_refusal_0 rfl (lv_at hl 0 rfl) ?_
  refine lv_iconst (v := 0) hx hb dX9_refusal_1 (by decide) ?_
  obtain ⟨q1, hq1, ht⟩ := it_b ht
  have hFc := q_freeW (hD S0) hS hA
  refine q_mv (va_runV (As := [.int 0]) (rest := []) ⟨hx, hb, hml, hown, hts⟩ (kX9_carryAll l D cI cZ cO d0 s.heap.size S0 0 q1 hq1) (cwV 1 hts gX9_refusal_X9_carryAll rfl rfl rfl (by decide +kernel) ⟨Nat.le_of_ble_eq_true rfl, Nat.le_of_ble_eq_true rfl⟩) (q_mV (As := [.int 0]) hE hP (hD S0) (q0 := 0) (ci := 9) rfl rfl) rfl rfl hl.1 rfl (lv_room (Nat.le_of_ble_eq_true rfl)) dX9_refusal_2 ⟨Nat.le_of_ble_eq_true rfl, Nat.le_of_ble_eq_true rfl⟩) hS hFc (fun H locs hP1 hk hS => ?_)
  have hP : va_P D vwCl (wg9 cI cZ d0 q1) H := hP1
  refine lv_aload_n hx hb dX9_refusal_5 rfl (lv_at hl 0 rfl) ?_
  obtain ⟨q2, hq2, ht⟩ := it_b ht
  have hFc := q_freeW (hD q1) hS hA
  refine q_mi (va_runV (As := []) (rest := []) ⟨hx, hb, hml, hown, hts⟩ (kX9_fault l D cI cZ cO d0 H.size q1 q2 hq2) (cwV 0 hts gX9_refusal_X9_fault rfl rfl rfl (by decide +kernel) ⟨Nat.le_of_ble_eq_true rfl, Nat.le_of_ble_eq_true rfl⟩) (q_mV (As := []) hE hP (hD q1) (q0 := 0) (ci := 9) rfl rfl) rfl rfl hl.1 rfl (lv_room (Nat.le_of_ble_eq_true rfl)) dX9_refusal_6 ⟨Nat.le_of_ble_eq_true rfl, Nat.le_of_ble_eq_true rfl⟩) hS hFc (fun H locs b3 hP1 hk hS => ?_)
  have hP : va_P D vwCl (wg9 cI cZ d0 q2.2) H := hP1
  refine lv_if_lt (tgt := 15) hx hb dX9_refusal_9 (by decide) (fun c4 => ?_) (fun c4 => ?_)
  · have ht := it_p c4 ht
    refine lv_aload_n hx hb dX9_refusal_15 rfl (lv_at hl 0 rfl) ?_
    obtain ⟨q5, hq5, ht⟩ := it_b ht
    have hFc := q_freeW (hD q2.2) hS hA
    refine q_mv (va_runV (As := []) (rest := []) ⟨hx, hb, hml, hown, hts⟩ (kX9_goStorms l D cI cZ cO d0 H.size q2.2 q5 hq5) (cwV 0 hts gX9_refusal_X9_goStorms rfl rfl rfl (by decide +kernel) ⟨Nat.le_of_ble_eq_true rfl, Nat.le_of_ble_eq_true rfl⟩) (q_mV (As := []) hE hP (hD q2.2) (q0 := 0) (ci := 9) rfl rfl) rfl rfl hl.1 rfl (lv_room (Nat.le_of_ble_eq_true rfl)) dX9_refusal_16 ⟨Nat.le_of_ble_eq_true rfl, Nat.le_of_ble_eq_true rfl⟩) hS hFc (fun H locs hP1 hk hS => ?_)
    have hP : va_P D vwCl (wg9 cI cZ d0 q5) H := hP1
    refine lv_aload_n hx hb dX9_refusal_19 rfl (lv_at hl 0 rfl) ?_
    refine va_get (D := D) (ci := 9) (v := .int (q5 26 0)) (C := RX9) (T := TX9) (N := 37) hx hb hts hi9 hown hE.1 hP 0 rfl rfl 26 (by decide) hw0 (fun _ h9 => h9) rfl dX9_refusal_20 ?_
    refine lv_if_lt (tgt := 31) hx hb dX9_refusal_23 (by decide) (fun c6 => ?_) (fun c6 => ?_)
    · have ht := it_p c6 ht
      refine lv_bipush (v := (-6)) hx hb dX9_refusal_31 (by decide) ?_
      obtain rfl := Option.some.inj ht
      exact W.iret (v := (-6)) hx hb hr (fun t e1 hW => ⟨⟨_, (), rfl, ⟨rfl, trivial⟩, q_at e1 hP⟩, hS.F e1⟩) hS.2.2 dX9_refusal_33
    · have ht := it_n c6 ht
      refine lv_bipush (v := (-3)) hx hb dX9_refusal_26 (by decide) ?_
      refine lv_goto (tgt := 33) hx hb dX9_refusal_28 (by decide) ?_
      obtain rfl := Option.some.inj ht
      exact W.iret (v := (-3)) hx hb hr (fun t e1 hW => ⟨⟨_, (), rfl, ⟨rfl, trivial⟩, q_at e1 hP⟩, hS.F e1⟩) hS.2.2 dX9_refusal_33
  · have ht := it_n c4 ht
    refine lv_bipush (v := (-5)) hx hb dX9_refusal_12 (by decide) ?_
    obtain rfl := Option.some.inj ht
    exact W.iret (v := (-5)) hx hb hr (fun t e1 hW => ⟨⟨_, (), rfl, ⟨rfl, trivial⟩, q_at e1 hP⟩, hS.F e1⟩) hS.2.2 dX9_refusal_14
abbrev rmX9_judge : Room := { frames := 7, cells := 0, slots := 0, locals := 152 }
set_option maxHeartbeats 4000000 in
set_option maxRecDepth 100000 in
theorem kX9_judge (l : Launch) (D : va_G) (cI cZ cO : ClassId) (d0 : Nat → Nat) (sz : Nat) (S0 : St) (p0 : Int32) (tg : Int32 × St) (ht : xX9_judge p0 S0 = some tg) : Met l yX9_judge wsX9_judge rmX9_judge (q_PM D cI cZ cO [.ref (d0 0), .int p0] sz (wg9 cI cZ d0 S0)) (va_Qi (fun x (_ : Unit) => x = tg.1 ∧ True) (fun _ t => va_P D vwCl (wg9 cI cZ d0 tg.2) t.heap) (va_A (wg9 cI cZ d0 S0) sz)) 0 0 (va_A (wg9 cI cZ d0 S0) sz) := by
  refine Met.ofW (cc := cX9_judge) (maxL := 3) (ret := (some .int)) (by decide) rfl ?_
  intro p e s m args below meth c s₁ B hml hv
  obtain ⟨rfl, hsz, hE, hP, hD0⟩ := hv
  have hx := B.exec
  have hb := B.bytes
  have hr := B.returns
  have hts := atoms_spec (ws := wsX9_judge) B.pre
  have hown : s.vm.findClass RX9 = some m.cls := findClass_of_methodNamed B.named
  have hlocks := B.notSynchronized
  have hi9 : ∀ w ∈ u_ws RX9 TX9 37, w ∈ wsX9_judge := by decide +kernel
  have hw0 := hts (.constantLong RX9 233 (2)) (by decide +kernel)
  have hw1 := hts (.fieldLink RX9 162 "HailNamesModel" "lostAll" "I") (by decide +kernel)
  have hw2 := hts (.fieldLink RX9 216 "HailNamesModel" "badWhy" "I") (by decide +kernel)
  have hw3 := hts (.fieldLink RX9 213 "HailNamesModel" "badAct" "I") (by decide +kernel)
  subst hsz
  have hD1 := hD0.self (sz := s.heap.size)
  generalize hAe : va_A (wg9 cI cZ d0 S0) s.heap.size = A at hD1 ⊢
  have hA : ∀ q : Nat, s.heap.size ≤ q → A q := fun q h => by rw [← hAe]; exact Or.inr h
  have hS : va_S A s.heap s.heap [] := va_S.rf
  have hD : ∀ (S0 : St), va_D A (wg9 cI cZ d0 S0) := fun S0 => q_D hD1 rfl
  have hl := lv_entry ([.ref (d0 0), .int p0]) (n := 3) (Nat.le_of_ble_eq_true rfl)
  rw [lg_entry_eq]
  generalize (lg_sl ([.ref (d0 0), .int p0]) ++ List.replicate (3 - (lg_sl ([.ref (d0 0), .int p0])).length) Slot.unset).toArray = ls at hl ⊢
  have hl : lv_has ls 3 [(0, .ref (d0 0)), (1, .int p0)] := hl
  have ht := (xX9_judge_s p0 S0).symm.trans ht
  obtain ⟨Q, hQ⟩ : ∃ Q, Q = MQ below (va_Qi (fun x (_ : Unit) => x = tg.1 ∧ True) (fun _ t => va_P D vwCl (wg9 cI cZ d0 tg.2) t.heap) A) ([.ref (d0 0), .int p0] : List Value).toArray s 0 0 A := ⟨_, rfl⟩
  rw [← hQ]
  have J43 : ∀ (S0 : St) (H : Heap) (locs : List Loc) (_ : va_P D vwCl (wg9 cI cZ d0 S0) H) (_ : va_S A s.heap H locs) (ls : Array Slot) (_ : lv_has ls 3 [(0, .ref (d0 0)), (1, .int p0)]) (_ : xX9_judge_h43 p0 S0 = some tg), W p l e (headSpec wsX9_judge rmX9_judge).room s m ([.ref (d0 0), .int p0] : List Value).toArray below meth c H locs 0 0 Q (F0 m 43 ls []) := by
    intro S0 H locs hP hS ls hl ht
    have ht := (xX9_judge_h43_s p0 S0).symm.trans ht
    refine lv_iload_n hx hb dX9_judge_43 rfl (lv_at hl 1 rfl) ?_
    refine lv_if_ne (tgt := 54) hx hb dX9_judge_44 (by decide) (fun c10 => ?_) (fun c10 => ?_)
    · have ht := it_n c10 ht
      refine lv_iload_n hx hb dX9_judge_54 rfl (lv_at hl 1 rfl) ?_
      refine lv_iconst (v := 1) hx hb dX9_judge_55 (by decide) ?_
      refine lv_icmp_ne (tgt := 66) hx hb dX9_judge_56 (by decide) (fun c11 => ?_) (fun c11 => ?_)
      · have ht := it_n c11 ht
        refine lv_aload_n hx hb dX9_judge_66 rfl (lv_at hl 0 rfl) ?_
        refine va_get (D := D) (ci := 9) (v := .int (S0 21 0)) (C := RX9) (T := TX9) (N := 37) hx hb hts hi9 hown hE.1 hP 0 rfl rfl 21 (by decide) hw1 (fun _ h9 => h9) rfl dX9_judge_67 ?_
        subst hQ
        obtain rfl := Option.some.inj ht
        exact W.iret (v := S0 21 0) hx hb hr (fun t e1 hW => ⟨⟨_, (), rfl, ⟨rfl, trivial⟩, q_at e1 hP⟩, hS.F e1⟩) hS.2.2 dX9_judge_70
      · have ht := it_p c11 ht
        refine lv_aload_n hx hb dX9_judge_59 rfl (lv_at hl 0 rfl) ?_
        refine va_get (D := D) (ci := 9) (v := .int (S0 27 0)) (C := RX9) (T := TX9) (N := 37) hx hb hts hi9 hown hE.1 hP 0 rfl rfl 27 (by decide) hw2 (fun _ h9 => h9) rfl dX9_judge_60 ?_
        refine lv_goto (tgt := 70) hx hb dX9_judge_63 (by decide) ?_
        subst hQ
        obtain rfl := Option.some.inj ht
        exact W.iret (v := S0 27 0) hx hb hr (fun t e1 hW => ⟨⟨_, (), rfl, ⟨rfl, trivial⟩, q_at e1 hP⟩, hS.F e1⟩) hS.2.2 dX9_judge_70
    · have ht := it_p c10 ht
      refine lv_aload_n hx hb dX9_judge_47 rfl (lv_at hl 0 rfl) ?_
      refine va_get (D := D) (ci := 9) (v := .int (S0 26 0)) (C := RX9) (T := TX9) (N := 37) hx hb hts hi9 hown hE.1 hP 0 rfl rfl 26 (by decide) hw3 (fun _ h9 => h9) rfl dX9_judge_48 ?_
      refine lv_goto (tgt := 70) hx hb dX9_judge_51 (by decide) ?_
      subst hQ
      obtain rfl := Option.some.inj ht
      exact W.iret (v := S0 26 0) hx hb hr (fun t e1 hW => ⟨⟨_, (), rfl, ⟨rfl, trivial⟩, q_at e1 hP⟩, hS.F e1⟩) hS.2.2 dX9_judge_70
  refine lv_iload_n hx hb dX9_judge_0 rfl (lv_at hl 1 rfl) ?_
  refine lv_i2l (v := p0.toInt64) hx hb dX9_judge_1 rfl ?_
  refine lv_lconst (v := 0) hx hb dX9_judge_2 (by decide) ?_
  refine lv_ldc2 hx hb hown hw0 dX9_judge_3 ?_
  refine q_ri (va_runS (As := [.long p0.toInt64, .long 0, .long 2]) (rest := []) ⟨hx, hb, hml, hown, hts⟩ (kX9_in l D cI cZ cO p0.toInt64 0 2) (va_cwS 3 hts gX9_judge_X9_in rfl rfl rfl (by decide +kernel) ⟨Nat.le_of_ble_eq_true rfl, Nat.le_of_ble_eq_true rfl⟩) (q_rS hE q_nil) rfl rfl hl.1 rfl (lv_room (Nat.le_of_ble_eq_true rfl)) dX9_judge_6 ⟨Nat.le_of_ble_eq_true rfl, Nat.le_of_ble_eq_true rfl⟩) (fun b1 => ?_)
  refine lv_if_ne (tgt := 15) hx hb dX9_judge_9 (by decide) (fun c2 => ?_) (fun c2 => ?_)
  · have ht := it_n c2 ht
    refine lv_aload_n hx hb dX9_judge_15 rfl (lv_at hl 0 rfl) ?_
    refine lv_aload_n hx hb dX9_judge_16 rfl (lv_at hl 0 rfl) ?_
    obtain ⟨q3, hq3, ht⟩ := it_b ht
    have hFc := q_freeW (hD S0) hS hA
    refine q_mi (va_runV (As := []) (rest := [.ref (d0 0)]) ⟨hx, hb, hml, hown, hts⟩ (kX9_refusal l D cI cZ cO d0 s.heap.size S0 q3 hq3) (cwV 0 hts gX9_judge_X9_refusal rfl rfl rfl (by decide +kernel) ⟨Nat.le_of_ble_eq_true rfl, Nat.le_of_ble_eq_true rfl⟩) (q_mV (As := []) hE hP (hD S0) (q0 := 0) (ci := 9) rfl rfl) rfl rfl hl.1 rfl (lv_room (Nat.le_of_ble_eq_true rfl)) dX9_judge_17 ⟨Nat.le_of_ble_eq_true rfl, Nat.le_of_ble_eq_true rfl⟩) hS hFc (fun H locs b4 hP1 hk hS => ?_)
    have hP : va_P D vwCl (wg9 cI cZ d0 q3.2) H := hP1
    obtain ⟨q5, hq5, ht⟩ := it_b ht
    have hFc := q_freeW (hD q3.2) hS hA
    refine q_mi (va_runV (As := [.int q3.1]) (rest := []) ⟨hx, hb, hml, hown, hts⟩ (kX9_back l D cI cZ cO d0 H.size q3.2 q3.1 q5 hq5) (cwV 1 hts gX9_judge_X9_back rfl rfl rfl (by decide +kernel) ⟨Nat.le_of_ble_eq_true rfl, Nat.le_of_ble_eq_true rfl⟩) (q_mV (As := [.int q3.1]) hE hP (hD q3.2) (q0 := 0) (ci := 9) rfl rfl) rfl rfl hl.1 rfl (lv_room (Nat.le_of_ble_eq_true rfl)) dX9_judge_20 ⟨Nat.le_of_ble_eq_true rfl, Nat.le_of_ble_eq_true rfl⟩) hS hFc (fun H locs b6 hP1 hk hS => ?_)
    have hP : va_P D vwCl (wg9 cI cZ d0 q5.2) H := hP1
    refine lv_istore_n (lv' := [(2, .int q5.1), (0, .ref (d0 0)), (1, .int p0)]) hx hb dX9_judge_23 rfl hl (by decide) rfl (fun ls hl => ?_)
    refine lv_iload_n hx hb dX9_judge_24 rfl (lv_at hl 0 rfl) ?_
    refine lv_bipush (v := (-5)) hx hb dX9_judge_25 (by decide) ?_
    refine lv_icmp_eq (tgt := 41) hx hb dX9_judge_27 (by decide) (fun c7 => ?_) (fun c7 => ?_)
    · have ht := it_p c7 ht
      refine lv_iload_n hx hb dX9_judge_41 rfl (lv_at hl 0 rfl) ?_
      subst hQ
      obtain rfl := Option.some.inj ht
      exact W.iret (v := q5.1) hx hb hr (fun t e1 hW => ⟨⟨_, (), rfl, ⟨rfl, trivial⟩, q_at e1 hP⟩, hS.F e1⟩) hS.2.2 dX9_judge_42
    · have ht := it_n c7 ht
      refine lv_iload_n hx hb dX9_judge_30 rfl (lv_at hl 2 rfl) ?_
      refine lv_iconst (v := 1) hx hb dX9_judge_31 (by decide) ?_
      refine lv_icmp_le (tgt := 43) hx hb dX9_judge_32 (by decide) (fun c8 => ?_) (fun c8 => ?_)
      · have ht := it_p c8 ht
        exact J43 q5.2 _ _ hP hS ls (lv_sub hl [1, 2] rfl) ht
      · have ht := it_n c8 ht
        refine lv_iload_n hx hb dX9_judge_35 rfl (lv_at hl 0 rfl) ?_
        refine lv_bipush (v := (-3)) hx hb dX9_judge_36 (by decide) ?_
        refine lv_icmp_ne (tgt := 43) hx hb dX9_judge_38 (by decide) (fun c9 => ?_) (fun c9 => ?_)
        · have ht := it_n c9 ht
          exact J43 q5.2 _ _ hP hS ls (lv_sub hl [1, 2] rfl) ht
        · have ht := it_p c9 ht
          refine lv_iload_n hx hb dX9_judge_41 rfl (lv_at hl 0 rfl) ?_
          subst hQ
          obtain rfl := Option.some.inj ht
          exact W.iret (v := q5.1) hx hb hr (fun t e1 hW => ⟨⟨_, (), rfl, ⟨rfl, trivial⟩, q_at e1 hP⟩, hS.F e1⟩) hS.2.2 dX9_judge_42
  · have ht := it_p c2 ht
    refine lv_bipush (v := (-2)) hx hb dX9_judge_12 (by decide) ?_
    subst hQ
    obtain rfl := Option.some.inj ht
    exact W.iret (v := (-2)) hx hb hr (fun t e1 hW => ⟨⟨_, (), rfl, ⟨rfl, trivial⟩, q_at e1 hP⟩, hS.F e1⟩) hS.2.2 dX9_judge_14
abbrev rmX9_ofPerson : Room := { frames := 0, cells := 0, slots := 0, locals := 0 }
set_option maxHeartbeats 4000000 in
set_option maxRecDepth 100000 in
theorem kX9_ofPerson (l : Launch) (D : va_G) (cI cZ cO : ClassId) (d0 : Nat → Nat) (S0 : St) (p0 : Int32) (p1 : Int32) (tg : Int32) (ht : xX9_ofPerson S0 p0 p1 = some tg) : Met l yX9_ofPerson wsX9_ofPerson rmX9_ofPerson (q_PR D cI cZ cO [.ref (d0 0), .int p0, .int p1] (wg9 cI cZ d0 S0)) (vp_Si (fun x => x = tg ∧ True)) 0 0 (fun _ => False) := by
  refine Met.ofW (cc := cX9_ofPerson) (maxL := 3) (ret := (some .int)) (by decide) rfl ?_
  intro p e s m args below meth c s₁ B hml hv
  obtain ⟨rfl, hE, hP⟩ := hv
  have hx := B.exec
  have hb := B.bytes
  have hr := B.returns
  have hts := atoms_spec (ws := wsX9_ofPerson) B.pre
  have hown : s.vm.findClass RX9 = some m.cls := findClass_of_methodNamed B.named
  have hlocks := B.notSynchronized
  have hi9 : ∀ w ∈ u_ws RX9 TX9 37, w ∈ wsX9_ofPerson := by decide +kernel
  have hw0 := hts (.fieldLink RX9 7 "HailNamesModel" "counts" "[I") (by decide +kernel)
  have hw1 := hts (.fieldLink RX9 13 "HailNamesModel" "noted" "[I") (by decide +kernel)
  have hw2 := hts (.fieldLink RX9 16 "HailNamesModel" "lies" "[I") (by decide +kernel)
  have hw3 := hts (.fieldLink RX9 19 "HailNamesModel" "size" "[I") (by decide +kernel)
  have hw4 := hts (.fieldLink RX9 22 "HailNamesModel" "figure" "[I") (by decide +kernel)
  have hl := lv_entry ([.ref (d0 0), .int p0, .int p1]) (n := 3) (Nat.le_of_ble_eq_true rfl)
  rw [lg_entry_eq]
  generalize (lg_sl ([.ref (d0 0), .int p0, .int p1]) ++ List.replicate (3 - (lg_sl ([.ref (d0 0), .int p0, .int p1])).length) Slot.unset).toArray = ls at hl ⊢
  have hl : lv_has ls 3 [(0, .ref (d0 0)), (1, .int p0), (2, .int p1)] := hl
  have ht := (xX9_ofPerson_s S0 p0 p1).symm.trans ht
  refine lv_iload_n hx hb dX9_ofPerson_0 rfl (lv_at hl 2 rfl) ?_
  by_cases c1 : p1 = 0
  · have ht := it_p c1 ht
    refine lv_tableIn (tgt := 32) hx hb dX9_ofPerson_1 (by rw [c1]; decide) (by rw [c1]; decide) (by rw [c1]; rfl) (by decide) ?_
    refine lv_aload_n hx hb dX9_ofPerson_32 rfl (lv_at hl 0 rfl) ?_
    refine va_get (D := D) (ci := 9) (v := .ref (d0 1)) (C := RX9) (T := TX9) (N := 37) hx hb hts hi9 hown hE.1 hP 0 rfl rfl 0 (by decide) hw0 (fun _ h9 => h9) rfl dX9_ofPerson_33 ?_
    refine lv_iload_n hx hb dX9_ofPerson_36 rfl (lv_at hl 1 rfl) ?_
    obtain ⟨g2, ht⟩ := it_g ht
    refine va_iald hx hb hE.1 hP 1 0 rfl rfl (q_in g2) dX9_ofPerson_37 ?_
    have ht := Option.some.inj ht
    exact W.iret (v := S0 0 p0.toNatClampNeg) hx hb hr (fun t e1 hW => ⟨_, rfl, ⟨ht, trivial⟩, e1⟩) (fun q h => absurd h List.not_mem_nil) dX9_ofPerson_38
  have ht := it_n c1 ht
  by_cases c3 : p1 = 1
  · have ht := it_p c3 ht
    refine lv_tableIn (tgt := 39) hx hb dX9_ofPerson_1 (by rw [c3]; decide) (by rw [c3]; decide) (by rw [c3]; rfl) (by decide) ?_
    refine lv_aload_n hx hb dX9_ofPerson_39 rfl (lv_at hl 0 rfl) ?_
    refine va_get (D := D) (ci := 9) (v := .ref (d0 2)) (C := RX9) (T := TX9) (N := 37) hx hb hts hi9 hown hE.1 hP 0 rfl rfl 1 (by decide) hw1 (fun _ h9 => h9) rfl dX9_ofPerson_40 ?_
    refine lv_iload_n hx hb dX9_ofPerson_43 rfl (lv_at hl 1 rfl) ?_
    obtain ⟨g4, ht⟩ := it_g ht
    refine va_iald hx hb hE.1 hP 2 0 rfl rfl (q_in g4) dX9_ofPerson_44 ?_
    have ht := Option.some.inj ht
    exact W.iret (v := S0 1 p0.toNatClampNeg) hx hb hr (fun t e1 hW => ⟨_, rfl, ⟨ht, trivial⟩, e1⟩) (fun q h => absurd h List.not_mem_nil) dX9_ofPerson_45
  have ht := it_n c3 ht
  by_cases c5 : p1 = 2
  · have ht := it_p c5 ht
    refine lv_tableIn (tgt := 46) hx hb dX9_ofPerson_1 (by rw [c5]; decide) (by rw [c5]; decide) (by rw [c5]; rfl) (by decide) ?_
    refine lv_aload_n hx hb dX9_ofPerson_46 rfl (lv_at hl 0 rfl) ?_
    refine va_get (D := D) (ci := 9) (v := .ref (d0 3)) (C := RX9) (T := TX9) (N := 37) hx hb hts hi9 hown hE.1 hP 0 rfl rfl 2 (by decide) hw2 (fun _ h9 => h9) rfl dX9_ofPerson_47 ?_
    refine lv_iload_n hx hb dX9_ofPerson_50 rfl (lv_at hl 1 rfl) ?_
    obtain ⟨g6, ht⟩ := it_g ht
    refine va_iald hx hb hE.1 hP 3 0 rfl rfl (q_in g6) dX9_ofPerson_51 ?_
    have ht := Option.some.inj ht
    exact W.iret (v := S0 2 p0.toNatClampNeg) hx hb hr (fun t e1 hW => ⟨_, rfl, ⟨ht, trivial⟩, e1⟩) (fun q h => absurd h List.not_mem_nil) dX9_ofPerson_52
  have ht := it_n c5 ht
  by_cases c7 : p1 = 3
  · have ht := it_p c7 ht
    refine lv_tableIn (tgt := 53) hx hb dX9_ofPerson_1 (by rw [c7]; decide) (by rw [c7]; decide) (by rw [c7]; rfl) (by decide) ?_
    refine lv_aload_n hx hb dX9_ofPerson_53 rfl (lv_at hl 0 rfl) ?_
    refine va_get (D := D) (ci := 9) (v := .ref (d0 4)) (C := RX9) (T := TX9) (N := 37) hx hb hts hi9 hown hE.1 hP 0 rfl rfl 3 (by decide) hw3 (fun _ h9 => h9) rfl dX9_ofPerson_54 ?_
    refine lv_iload_n hx hb dX9_ofPerson_57 rfl (lv_at hl 1 rfl) ?_
    obtain ⟨g8, ht⟩ := it_g ht
    refine va_iald hx hb hE.1 hP 4 0 rfl rfl (q_in g8) dX9_ofPerson_58 ?_
    have ht := Option.some.inj ht
    exact W.iret (v := S0 3 p0.toNatClampNeg) hx hb hr (fun t e1 hW => ⟨_, rfl, ⟨ht, trivial⟩, e1⟩) (fun q h => absurd h List.not_mem_nil) dX9_ofPerson_59
  have ht := it_n c7 ht
  refine lv_tableOut (tgt := 60) hx hb dX9_ofPerson_1 (by have n0 := lv_neT c1 (show (0 : Int32).toInt = 0 by decide); have n1 := lv_neT c3 (show (1 : Int32).toInt = 1 by decide); have n2 := lv_neT c5 (show (2 : Int32).toInt = 2 by decide); have n3 := lv_neT c7 (show (3 : Int32).toInt = 3 by decide); omega) (by decide) ?_
  refine lv_aload_n hx hb dX9_ofPerson_60 rfl (lv_at hl 0 rfl) ?_
  refine va_get (D := D) (ci := 9) (v := .ref (d0 5)) (C := RX9) (T := TX9) (N := 37) hx hb hts hi9 hown hE.1 hP 0 rfl rfl 4 (by decide) hw4 (fun _ h9 => h9) rfl dX9_ofPerson_61 ?_
  refine lv_iload_n hx hb dX9_ofPerson_64 rfl (lv_at hl 1 rfl) ?_
  obtain ⟨g9, ht⟩ := it_g ht
  refine va_iald hx hb hE.1 hP 5 0 rfl rfl (q_in g9) dX9_ofPerson_65 ?_
  have ht := Option.some.inj ht
  exact W.iret (v := S0 4 p0.toNatClampNeg) hx hb hr (fun t e1 hW => ⟨_, rfl, ⟨ht, trivial⟩, e1⟩) (fun q h => absurd h List.not_mem_nil) dX9_ofPerson_66
abbrev rmX9_behind : Room := { frames := 7, cells := 0, slots := 0, locals := 152 }
set_option maxHeartbeats 4000000 in
set_option maxRecDepth 100000 in
theorem kX9_behind (l : Launch) (D : va_G) (cI cZ cO : ClassId) (d0 : Nat → Nat) (sz : Nat) (S0 : St) (p0 : Int32) (p1 : Int32) (tg : Int32 × St) (ht : xX9_behind p0 p1 S0 = some tg) : Met l yX9_behind wsX9_behind rmX9_behind (q_PM D cI cZ cO [.ref (d0 0), .int p0, .int p1] sz (wg9 cI cZ d0 S0)) (va_Qi (fun x (_ : Unit) => x = tg.1 ∧ True) (fun _ t => va_P D vwCl (wg9 cI cZ d0 tg.2) t.heap) (va_A (wg9 cI cZ d0 S0) sz)) 0 0 (va_A (wg9 cI cZ d0 S0) sz) := by
  refine Met.ofW (cc := cX9_behind) (maxL := 4) (ret := (some .int)) (by decide) rfl ?_
  intro p e s m args below meth c s₁ B hml hv
  obtain ⟨rfl, hsz, hE, hP, hD0⟩ := hv
  have hx := B.exec
  have hb := B.bytes
  have hr := B.returns
  have hts := atoms_spec (ws := wsX9_behind) B.pre
  have hown : s.vm.findClass RX9 = some m.cls := findClass_of_methodNamed B.named
  have hlocks := B.notSynchronized
  have hw0 := hts (.constantLong RX9 241 (4)) (by decide +kernel)
  subst hsz
  have hD1 := hD0.self (sz := s.heap.size)
  generalize hAe : va_A (wg9 cI cZ d0 S0) s.heap.size = A at hD1 ⊢
  have hA : ∀ q : Nat, s.heap.size ≤ q → A q := fun q h => by rw [← hAe]; exact Or.inr h
  have hS : va_S A s.heap s.heap [] := va_S.rf
  have hD : ∀ (S0 : St), va_D A (wg9 cI cZ d0 S0) := fun S0 => q_D hD1 rfl
  have hl := lv_entry ([.ref (d0 0), .int p0, .int p1]) (n := 4) (Nat.le_of_ble_eq_true rfl)
  rw [lg_entry_eq]
  generalize (lg_sl ([.ref (d0 0), .int p0, .int p1]) ++ List.replicate (4 - (lg_sl ([.ref (d0 0), .int p0, .int p1])).length) Slot.unset).toArray = ls at hl ⊢
  have hl : lv_has ls 4 [(0, .ref (d0 0)), (1, .int p0), (2, .int p1)] := hl
  have ht := (xX9_behind_s p0 p1 S0).symm.trans ht
  obtain ⟨Q, hQ⟩ : ∃ Q, Q = MQ below (va_Qi (fun x (_ : Unit) => x = tg.1 ∧ True) (fun _ t => va_P D vwCl (wg9 cI cZ d0 tg.2) t.heap) A) ([.ref (d0 0), .int p0, .int p1] : List Value).toArray s 0 0 A := ⟨_, rfl⟩
  rw [← hQ]
  have J46 : ∀ (z1 : Int32) (S0 : St) (H : Heap) (locs : List Loc) (_ : va_P D vwCl (wg9 cI cZ d0 S0) H) (_ : va_S A s.heap H locs) (ls : Array Slot) (_ : lv_has ls 4 []) (_ : xX9_behind_h46 p0 p1 z1 S0 = some tg), W p l e (headSpec wsX9_behind rmX9_behind).room s m ([.ref (d0 0), .int p0, .int p1] : List Value).toArray below meth c H locs 0 0 Q (F0 m 46 ls [.int z1, .ref (d0 0)]) := by
    intro z1 S0 H locs hP hS ls hl ht
    have ht := (xX9_behind_h46_s p0 p1 z1 S0).symm.trans ht
    obtain ⟨q10, hq10, ht⟩ := it_b ht
    have hFc := q_freeW (hD S0) hS hA
    refine q_mi (va_runV (As := [.int z1]) (rest := []) ⟨hx, hb, hml, hown, hts⟩ (kX9_back l D cI cZ cO d0 H.size S0 z1 q10 hq10) (cwV 1 hts gX9_behind_X9_back rfl rfl rfl (by decide +kernel) ⟨Nat.le_of_ble_eq_true rfl, Nat.le_of_ble_eq_true rfl⟩) (q_mV (As := [.int z1]) hE hP (hD S0) (q0 := 0) (ci := 9) rfl rfl) rfl rfl hl.1 rfl (lv_room (Nat.le_of_ble_eq_true rfl)) dX9_behind_46 ⟨Nat.le_of_ble_eq_true rfl, Nat.le_of_ble_eq_true rfl⟩) hS hFc (fun H locs b11 hP1 hk hS => ?_)
    have hP : va_P D vwCl (wg9 cI cZ d0 q10.2) H := hP1
    subst hQ
    obtain rfl := Option.some.inj ht
    exact W.iret (v := q10.1) hx hb hr (fun t e1 hW => ⟨⟨_, (), rfl, ⟨rfl, trivial⟩, q_at e1 hP⟩, hS.F e1⟩) hS.2.2 dX9_behind_49
  refine lv_iload_n hx hb dX9_behind_0 rfl (lv_at hl 1 rfl) ?_
  refine q_ri (va_runS (As := [.int p0]) (rest := []) ⟨hx, hb, hml, hown, hts⟩ (kX9_isPerson l D cI cZ cO p0) (va_cwS 1 hts gX9_behind_X9_isPerson rfl rfl rfl (by decide +kernel) ⟨Nat.le_of_ble_eq_true rfl, Nat.le_of_ble_eq_true rfl⟩) (q_rS hE q_nil) rfl rfl hl.1 rfl (lv_room (Nat.le_of_ble_eq_true rfl)) dX9_behind_1 ⟨Nat.le_of_ble_eq_true rfl, Nat.le_of_ble_eq_true rfl⟩) (fun b1 => ?_)
  refine lv_if_ne (tgt := 9) hx hb dX9_behind_4 (by decide) (fun c2 => ?_) (fun c2 => ?_)
  · have ht := it_n c2 ht
    refine lv_iload_n hx hb dX9_behind_9 rfl (lv_at hl 2 rfl) ?_
    refine lv_i2l (v := p1.toInt64) hx hb dX9_behind_10 rfl ?_
    refine lv_lconst (v := 0) hx hb dX9_behind_11 (by decide) ?_
    refine lv_ldc2 hx hb hown hw0 dX9_behind_12 ?_
    refine q_ri (va_runS (As := [.long p1.toInt64, .long 0, .long 4]) (rest := []) ⟨hx, hb, hml, hown, hts⟩ (kX9_in l D cI cZ cO p1.toInt64 0 4) (va_cwS 3 hts gX9_behind_X9_in rfl rfl rfl (by decide +kernel) ⟨Nat.le_of_ble_eq_true rfl, Nat.le_of_ble_eq_true rfl⟩) (q_rS hE q_nil) rfl rfl hl.1 rfl (lv_room (Nat.le_of_ble_eq_true rfl)) dX9_behind_15 ⟨Nat.le_of_ble_eq_true rfl, Nat.le_of_ble_eq_true rfl⟩) (fun b3 => ?_)
    refine lv_if_ne (tgt := 24) hx hb dX9_behind_18 (by decide) (fun c4 => ?_) (fun c4 => ?_)
    · have ht := it_n c4 ht
      refine lv_aload_n hx hb dX9_behind_24 rfl (lv_at hl 0 rfl) ?_
      obtain ⟨q5, hq5, ht⟩ := it_b ht
      have hFc := q_freeW (hD S0) hS hA
      refine q_mi (va_runV (As := []) (rest := []) ⟨hx, hb, hml, hown, hts⟩ (kX9_refusal l D cI cZ cO d0 s.heap.size S0 q5 hq5) (cwV 0 hts gX9_behind_X9_refusal rfl rfl rfl (by decide +kernel) ⟨Nat.le_of_ble_eq_true rfl, Nat.le_of_ble_eq_true rfl⟩) (q_mV (As := []) hE hP (hD S0) (q0 := 0) (ci := 9) rfl rfl) rfl rfl hl.1 rfl (lv_room (Nat.le_of_ble_eq_true rfl)) dX9_behind_25 ⟨Nat.le_of_ble_eq_true rfl, Nat.le_of_ble_eq_true rfl⟩) hS hFc (fun H locs b6 hP1 hk hS => ?_)
      have hP : va_P D vwCl (wg9 cI cZ d0 q5.2) H := hP1
      refine lv_istore_n (lv' := [(3, .int q5.1), (0, .ref (d0 0)), (1, .int p0), (2, .int p1)]) hx hb dX9_behind_28 rfl hl (by decide) rfl (fun ls hl => ?_)
      refine lv_aload_n hx hb dX9_behind_29 rfl (lv_at hl 1 rfl) ?_
      refine lv_iload_n hx hb dX9_behind_30 rfl (lv_at hl 0 rfl) ?_
      refine lv_bipush (v := (-6)) hx hb dX9_behind_31 (by decide) ?_
      refine lv_icmp_eq (tgt := 40) hx hb dX9_behind_33 (by decide) (fun c7 => ?_) (fun c7 => ?_)
      · have ht := it_p c7 ht
        refine lv_aload_n hx hb dX9_behind_40 rfl (lv_at hl 1 rfl) ?_
        refine lv_iload_n hx hb dX9_behind_41 rfl (lv_at hl 2 rfl) ?_
        refine lv_iload_n hx hb dX9_behind_42 rfl (lv_at hl 3 rfl) ?_
        obtain ⟨q8, hq8, ht⟩ := it_b ht
        refine q_ri (va_runV (As := [.int p0, .int p1]) (rest := [.ref (d0 0)]) ⟨hx, hb, hml, hown, hts⟩ (kX9_ofPerson l D cI cZ cO d0 q5.2 p0 p1 q8 hq8) (cwV 2 hts gX9_behind_X9_ofPerson rfl rfl rfl (by decide +kernel) ⟨Nat.le_of_ble_eq_true rfl, Nat.le_of_ble_eq_true rfl⟩) (q_rV (As := [.int p0, .int p1]) hE hP (q0 := 0) (ci := 9) rfl rfl) rfl rfl hl.1 rfl (lv_room (Nat.le_of_ble_eq_true rfl)) dX9_behind_43 ⟨Nat.le_of_ble_eq_true rfl, Nat.le_of_ble_eq_true rfl⟩) (fun b9 => ?_)
        exact J46 q8 q5.2 _ _ hP hS ls (lv_sub hl [] rfl) ht
      · have ht := it_n c7 ht
        refine lv_iload_n hx hb dX9_behind_36 rfl (lv_at hl 0 rfl) ?_
        refine lv_goto (tgt := 46) hx hb dX9_behind_37 (by decide) ?_
        exact J46 q5.1 q5.2 _ _ hP hS ls (lv_sub hl [] rfl) ht
    · have ht := it_p c4 ht
      refine lv_bipush (v := (-2)) hx hb dX9_behind_21 (by decide) ?_
      subst hQ
      obtain rfl := Option.some.inj ht
      exact W.iret (v := (-2)) hx hb hr (fun t e1 hW => ⟨⟨_, (), rfl, ⟨rfl, trivial⟩, q_at e1 hP⟩, hS.F e1⟩) hS.2.2 dX9_behind_23
  · have ht := it_p c2 ht
    refine lv_iconst (v := (-1)) hx hb dX9_behind_7 (by decide) ?_
    subst hQ
    obtain rfl := Option.some.inj ht
    exact W.iret (v := (-1)) hx hb hr (fun t e1 hW => ⟨⟨_, (), rfl, ⟨rfl, trivial⟩, q_at e1 hP⟩, hS.F e1⟩) hS.2.2 dX9_behind_8
abbrev rmX9_reads : Room := { frames := 7, cells := 0, slots := 0, locals := 152 }
set_option maxHeartbeats 4000000 in
set_option maxRecDepth 100000 in
theorem kX9_reads (l : Launch) (D : va_G) (cI cZ cO : ClassId) (d0 : Nat → Nat) (sz : Nat) (S0 : St) (p0 : Int32) (p1 : Int32) (tg : Int32 × St) (ht : xX9_reads p0 p1 S0 = some tg) : Met l yX9_reads wsX9_reads rmX9_reads (q_PM D cI cZ cO [.ref (d0 0), .int p0, .int p1] sz (wg9 cI cZ d0 S0)) (va_Qi (fun x (_ : Unit) => x = tg.1 ∧ True) (fun _ t => va_P D vwCl (wg9 cI cZ d0 tg.2) t.heap) (va_A (wg9 cI cZ d0 S0) sz)) 0 0 (va_A (wg9 cI cZ d0 S0) sz) := by
  refine Met.ofW (cc := cX9_reads) (maxL := 5) (ret := (some .int)) (by decide) rfl ?_
  intro p e s m args below meth c s₁ B hml hv
  obtain ⟨rfl, hsz, hE, hP, hD0⟩ := hv
  have hx := B.exec
  have hb := B.bytes
  have hr := B.returns
  have hts := atoms_spec (ws := wsX9_reads) B.pre
  have hown : s.vm.findClass RX9 = some m.cls := findClass_of_methodNamed B.named
  have hlocks := B.notSynchronized
  have hi9 : ∀ w ∈ u_ws RX9 TX9 37, w ∈ wsX9_reads := by decide +kernel
  have hw0 := hts (.constantLong RX9 87 (3)) (by decide +kernel)
  have hw1 := hts (.fieldLink RX9 31 "HailNamesModel" "hasRead" "[I") (by decide +kernel)
  have hw2 := hts (.fieldLink RX9 28 "HailNamesModel" "stun" "[I") (by decide +kernel)
  have hw3 := hts (.fieldLink RX9 25 "HailNamesModel" "stands" "[I") (by decide +kernel)
  subst hsz
  have hD1 := hD0.self (sz := s.heap.size)
  generalize hAe : va_A (wg9 cI cZ d0 S0) s.heap.size = A at hD1 ⊢
  have hA : ∀ q : Nat, s.heap.size ≤ q → A q := fun q h => by rw [← hAe]; exact Or.inr h
  have hS : va_S A s.heap s.heap [] := va_S.rf
  have hD : ∀ (S0 : St), va_D A (wg9 cI cZ d0 S0) := fun S0 => q_D hD1 rfl
  have hl := lv_entry ([.ref (d0 0), .int p0, .int p1]) (n := 5) (Nat.le_of_ble_eq_true rfl)
  rw [lg_entry_eq]
  generalize (lg_sl ([.ref (d0 0), .int p0, .int p1]) ++ List.replicate (5 - (lg_sl ([.ref (d0 0), .int p0, .int p1])).length) Slot.unset).toArray = ls at hl ⊢
  have hl : lv_has ls 5 [(0, .ref (d0 0)), (1, .int p0), (2, .int p1)] := hl
  have ht := (xX9_reads_s p0 p1 S0).symm.trans ht
  obtain ⟨Q, hQ⟩ : ∃ Q, Q = MQ below (va_Qi (fun x (_ : Unit) => x = tg.1 ∧ True) (fun _ t => va_P D vwCl (wg9 cI cZ d0 tg.2) t.heap) A) ([.ref (d0 0), .int p0, .int p1] : List Value).toArray s 0 0 A := ⟨_, rfl⟩
  rw [← hQ]
  have J83 : ∀ (x3 : Int32) (z0 : Int32) (S0 : St) (H : Heap) (locs : List Loc) (_ : va_P D vwCl (wg9 cI cZ d0 S0) H) (_ : va_S A s.heap H locs) (ls : Array Slot) (_ : lv_has ls 5 [(0, .ref (d0 0)), (3, .int x3)]) (_ : xX9_reads_h83 p0 p1 x3 z0 S0 = some tg), W p l e (headSpec wsX9_reads rmX9_reads).room s m ([.ref (d0 0), .int p0, .int p1] : List Value).toArray below meth c H locs 0 0 Q (F0 m 83 ls [.int z0]) := by
    intro x3 z0 S0 H locs hP hS ls hl ht
    have ht := (xX9_reads_h83_s p0 p1 x3 z0 S0).symm.trans ht
    have J98 : ∀ (z1 : Int32) (S0 : St) (H : Heap) (locs : List Loc) (_ : va_P D vwCl (wg9 cI cZ d0 S0) H) (_ : va_S A s.heap H locs) (ls : Array Slot) (_ : lv_has ls 5 []) (_ : xX9_reads_h98 p0 p1 z1 S0 = some tg), W p l e (headSpec wsX9_reads rmX9_reads).room s m ([.ref (d0 0), .int p0, .int p1] : List Value).toArray below meth c H locs 0 0 Q (F0 m 98 ls [.int z1, .ref (d0 0)]) := by
      intro z1 S0 H locs hP hS ls hl ht
      have ht := (xX9_reads_h98_s p0 p1 z1 S0).symm.trans ht
      obtain ⟨q17, hq17, ht⟩ := it_b ht
      have hFc := q_freeW (hD S0) hS hA
      refine q_mi (va_runV (As := [.int z1]) (rest := []) ⟨hx, hb, hml, hown, hts⟩ (kX9_back l D cI cZ cO d0 H.size S0 z1 q17 hq17) (cwV 1 hts gX9_reads_X9_back rfl rfl rfl (by decide +kernel) ⟨Nat.le_of_ble_eq_true rfl, Nat.le_of_ble_eq_true rfl⟩) (q_mV (As := [.int z1]) hE hP (hD S0) (q0 := 0) (ci := 9) rfl rfl) rfl rfl hl.1 rfl (lv_room (Nat.le_of_ble_eq_true rfl)) dX9_reads_98 ⟨Nat.le_of_ble_eq_true rfl, Nat.le_of_ble_eq_true rfl⟩) hS hFc (fun H locs b18 hP1 hk hS => ?_)
      have hP : va_P D vwCl (wg9 cI cZ d0 q17.2) H := hP1
      subst hQ
      obtain rfl := Option.some.inj ht
      exact W.iret (v := q17.1) hx hb hr (fun t e1 hW => ⟨⟨_, (), rfl, ⟨rfl, trivial⟩, q_at e1 hP⟩, hS.F e1⟩) hS.2.2 dX9_reads_101
    refine lv_istore (lv' := [(4, .int z0), (0, .ref (d0 0)), (3, .int x3)]) hx hb dX9_reads_83 hl (by decide) rfl (fun ls hl => ?_)
    refine lv_aload_n hx hb dX9_reads_85 rfl (lv_at hl 1 rfl) ?_
    refine lv_iload_n hx hb dX9_reads_86 rfl (lv_at hl 2 rfl) ?_
    refine lv_bipush (v := (-6)) hx hb dX9_reads_87 (by decide) ?_
    refine lv_icmp_eq (tgt := 96) hx hb dX9_reads_89 (by decide) (fun c16 => ?_) (fun c16 => ?_)
    · have ht := it_p c16 ht
      refine lv_iload hx hb dX9_reads_96 (lv_at hl 0 rfl) ?_
      exact J98 z0 S0 _ _ hP hS ls (lv_sub hl [] rfl) ht
    · have ht := it_n c16 ht
      refine lv_iload_n hx hb dX9_reads_92 rfl (lv_at hl 2 rfl) ?_
      refine lv_goto (tgt := 98) hx hb dX9_reads_93 (by decide) ?_
      exact J98 x3 S0 _ _ hP hS ls (lv_sub hl [] rfl) ht
  refine lv_iload_n hx hb dX9_reads_0 rfl (lv_at hl 1 rfl) ?_
  refine q_ri (va_runS (As := [.int p0]) (rest := []) ⟨hx, hb, hml, hown, hts⟩ (kX9_isReader l D cI cZ cO p0) (va_cwS 1 hts gX9_reads_X9_isReader rfl rfl rfl (by decide +kernel) ⟨Nat.le_of_ble_eq_true rfl, Nat.le_of_ble_eq_true rfl⟩) (q_rS hE q_nil) rfl rfl hl.1 rfl (lv_room (Nat.le_of_ble_eq_true rfl)) dX9_reads_1 ⟨Nat.le_of_ble_eq_true rfl, Nat.le_of_ble_eq_true rfl⟩) (fun b1 => ?_)
  refine lv_if_ne (tgt := 9) hx hb dX9_reads_4 (by decide) (fun c2 => ?_) (fun c2 => ?_)
  · have ht := it_n c2 ht
    refine lv_iload_n hx hb dX9_reads_9 rfl (lv_at hl 2 rfl) ?_
    refine lv_i2l (v := p1.toInt64) hx hb dX9_reads_10 rfl ?_
    refine lv_lconst (v := 0) hx hb dX9_reads_11 (by decide) ?_
    refine lv_ldc2 hx hb hown hw0 dX9_reads_12 ?_
    refine q_ri (va_runS (As := [.long p1.toInt64, .long 0, .long 3]) (rest := []) ⟨hx, hb, hml, hown, hts⟩ (kX9_in l D cI cZ cO p1.toInt64 0 3) (va_cwS 3 hts gX9_reads_X9_in rfl rfl rfl (by decide +kernel) ⟨Nat.le_of_ble_eq_true rfl, Nat.le_of_ble_eq_true rfl⟩) (q_rS hE q_nil) rfl rfl hl.1 rfl (lv_room (Nat.le_of_ble_eq_true rfl)) dX9_reads_15 ⟨Nat.le_of_ble_eq_true rfl, Nat.le_of_ble_eq_true rfl⟩) (fun b3 => ?_)
    refine lv_if_ne (tgt := 24) hx hb dX9_reads_18 (by decide) (fun c4 => ?_) (fun c4 => ?_)
    · have ht := it_n c4 ht
      refine lv_aload_n hx hb dX9_reads_24 rfl (lv_at hl 0 rfl) ?_
      obtain ⟨q5, hq5, ht⟩ := it_b ht
      have hFc := q_freeW (hD S0) hS hA
      refine q_mi (va_runV (As := []) (rest := []) ⟨hx, hb, hml, hown, hts⟩ (kX9_refusal l D cI cZ cO d0 s.heap.size S0 q5 hq5) (cwV 0 hts gX9_reads_X9_refusal rfl rfl rfl (by decide +kernel) ⟨Nat.le_of_ble_eq_true rfl, Nat.le_of_ble_eq_true rfl⟩) (q_mV (As := []) hE hP (hD S0) (q0 := 0) (ci := 9) rfl rfl) rfl rfl hl.1 rfl (lv_room (Nat.le_of_ble_eq_true rfl)) dX9_reads_25 ⟨Nat.le_of_ble_eq_true rfl, Nat.le_of_ble_eq_true rfl⟩) hS hFc (fun H locs b6 hP1 hk hS => ?_)
      have hP : va_P D vwCl (wg9 cI cZ d0 q5.2) H := hP1
      refine lv_istore_n (lv' := [(3, .int q5.1), (0, .ref (d0 0)), (1, .int p0), (2, .int p1)]) hx hb dX9_reads_28 rfl hl (by decide) rfl (fun ls hl => ?_)
      refine lv_iload_n hx hb dX9_reads_29 rfl (lv_at hl 3 rfl) ?_
      refine lv_if_ne (tgt := 42) hx hb dX9_reads_30 (by decide) (fun c7 => ?_) (fun c7 => ?_)
      · have ht := it_n c7 ht
        refine lv_iload_n hx hb dX9_reads_42 rfl (lv_at hl 3 rfl) ?_
        refine lv_iconst (v := 1) hx hb dX9_reads_43 (by decide) ?_
        refine lv_icmp_ne (tgt := 56) hx hb dX9_reads_44 (by decide) (fun c8 => ?_) (fun c8 => ?_)
        · have ht := it_n c8 ht
          refine lv_iload_n hx hb dX9_reads_56 rfl (lv_at hl 3 rfl) ?_
          refine lv_iconst (v := 2) hx hb dX9_reads_57 (by decide) ?_
          refine lv_icmp_ne (tgt := 70) hx hb dX9_reads_58 (by decide) (fun c9 => ?_) (fun c9 => ?_)
          · have ht := it_n c9 ht
            refine lv_aload_n hx hb dX9_reads_70 rfl (lv_at hl 1 rfl) ?_
            refine lv_iload_n hx hb dX9_reads_71 rfl (lv_at hl 2 rfl) ?_
            obtain ⟨q10, hq10, ht⟩ := it_b ht
            refine q_ri (va_runV (As := [.int p0]) (rest := []) ⟨hx, hb, hml, hown, hts⟩ (kX9_may l D cI cZ cO d0 q5.2 p0 q10 hq10) (cwV 1 hts gX9_reads_X9_may rfl rfl rfl (by decide +kernel) ⟨Nat.le_of_ble_eq_true rfl, Nat.le_of_ble_eq_true rfl⟩) (q_rV (As := [.int p0]) hE hP (q0 := 0) (ci := 9) rfl rfl) rfl rfl hl.1 rfl (lv_room (Nat.le_of_ble_eq_true rfl)) dX9_reads_72 ⟨Nat.le_of_ble_eq_true rfl, Nat.le_of_ble_eq_true rfl⟩) (fun b11 => ?_)
            refine lv_if_eq (tgt := 82) hx hb dX9_reads_75 (by decide) (fun c12 => ?_) (fun c12 => ?_)
            · have ht := it_p c12 ht
              refine lv_iconst (v := 0) hx hb dX9_reads_82 (by decide) ?_
              exact J83 q5.1 0 q5.2 _ _ hP hS ls (lv_sub hl [1, 0] rfl) ht
            · have ht := it_n c12 ht
              refine lv_iconst (v := 1) hx hb dX9_reads_78 (by decide) ?_
              refine lv_goto (tgt := 83) hx hb dX9_reads_79 (by decide) ?_
              exact J83 q5.1 1 q5.2 _ _ hP hS ls (lv_sub hl [1, 0] rfl) ht
          · have ht := it_p c9 ht
            refine lv_aload_n hx hb dX9_reads_61 rfl (lv_at hl 1 rfl) ?_
            refine va_get (D := D) (ci := 9) (v := .ref (d0 8)) (C := RX9) (T := TX9) (N := 37) hx hb hts hi9 hown hE.1 hP 0 rfl rfl 7 (by decide) hw1 (fun _ h9 => h9) rfl dX9_reads_62 ?_
            refine lv_iload_n hx hb dX9_reads_65 rfl (lv_at hl 2 rfl) ?_
            obtain ⟨g13, ht⟩ := it_g ht
            refine va_iald hx hb hE.1 hP 8 0 rfl rfl (q_in g13) dX9_reads_66 ?_
            refine lv_goto (tgt := 83) hx hb dX9_reads_67 (by decide) ?_
            exact J83 q5.1 (q5.2 7 p0.toNatClampNeg) q5.2 _ _ hP hS ls (lv_sub hl [1, 0] rfl) ht
        · have ht := it_p c8 ht
          refine lv_aload_n hx hb dX9_reads_47 rfl (lv_at hl 1 rfl) ?_
          refine va_get (D := D) (ci := 9) (v := .ref (d0 7)) (C := RX9) (T := TX9) (N := 37) hx hb hts hi9 hown hE.1 hP 0 rfl rfl 6 (by decide) hw2 (fun _ h9 => h9) rfl dX9_reads_48 ?_
          refine lv_iload_n hx hb dX9_reads_51 rfl (lv_at hl 2 rfl) ?_
          obtain ⟨g14, ht⟩ := it_g ht
          refine va_iald hx hb hE.1 hP 7 0 rfl rfl (q_in g14) dX9_reads_52 ?_
          refine lv_goto (tgt := 83) hx hb dX9_reads_53 (by decide) ?_
          exact J83 q5.1 (q5.2 6 p0.toNatClampNeg) q5.2 _ _ hP hS ls (lv_sub hl [1, 0] rfl) ht
      · have ht := it_p c7 ht
        refine lv_aload_n hx hb dX9_reads_33 rfl (lv_at hl 1 rfl) ?_
        refine va_get (D := D) (ci := 9) (v := .ref (d0 6)) (C := RX9) (T := TX9) (N := 37) hx hb hts hi9 hown hE.1 hP 0 rfl rfl 5 (by decide) hw3 (fun _ h9 => h9) rfl dX9_reads_34 ?_
        refine lv_iload_n hx hb dX9_reads_37 rfl (lv_at hl 2 rfl) ?_
        obtain ⟨g15, ht⟩ := it_g ht
        refine va_iald hx hb hE.1 hP 6 0 rfl rfl (q_in g15) dX9_reads_38 ?_
        refine lv_goto (tgt := 83) hx hb dX9_reads_39 (by decide) ?_
        exact J83 q5.1 (q5.2 5 p0.toNatClampNeg) q5.2 _ _ hP hS ls (lv_sub hl [1, 0] rfl) ht
    · have ht := it_p c4 ht
      refine lv_bipush (v := (-2)) hx hb dX9_reads_21 (by decide) ?_
      subst hQ
      obtain rfl := Option.some.inj ht
      exact W.iret (v := (-2)) hx hb hr (fun t e1 hW => ⟨⟨_, (), rfl, ⟨rfl, trivial⟩, q_at e1 hP⟩, hS.F e1⟩) hS.2.2 dX9_reads_23
  · have ht := it_p c2 ht
    refine lv_iconst (v := (-1)) hx hb dX9_reads_7 (by decide) ?_
    subst hQ
    obtain rfl := Option.some.inj ht
    exact W.iret (v := (-1)) hx hb hr (fun t e1 hW => ⟨⟨_, (), rfl, ⟨rfl, trivial⟩, q_at e1 hP⟩, hS.F e1⟩) hS.2.2 dX9_reads_8
abbrev rmX9_lying : Room := { frames := 0, cells := 0, slots := 0, locals := 0 }
set_option maxHeartbeats 4000000 in
set_option maxRecDepth 100000 in
theorem kX9_lying (l : Launch) (D : va_G) (cI cZ cO : ClassId) (d0 : Nat → Nat) (S0 : St) (tg : Int32) (ht : xX9_lying S0 = some tg) : Met l yX9_lying wsX9_lying rmX9_lying (q_PR D cI cZ cO [.ref (d0 0)] (wg9 cI cZ d0 S0)) (vp_Si (fun x => x = tg ∧ True)) 0 0 (fun _ => False) := by
  refine Met.ofW (cc := cX9_lying) (maxL := 3) (ret := (some .int)) (by decide) rfl ?_
  intro p e s m args below meth c s₁ B hml hv
  obtain ⟨rfl, hE, hP⟩ := hv
  have hx := B.exec
  have hb := B.bytes
  have hr := B.returns
  have hts := atoms_spec (ws := wsX9_lying) B.pre
  have hown : s.vm.findClass RX9 = some m.cls := findClass_of_methodNamed B.named
  have hlocks := B.notSynchronized
  have hi9 : ∀ w ∈ u_ws RX9 TX9 37, w ∈ wsX9_lying := by decide +kernel
  have hw0 := hts (.fieldLink RX9 16 "HailNamesModel" "lies" "[I") (by decide +kernel)
  have hl := lv_entry ([.ref (d0 0)]) (n := 3) (Nat.le_of_ble_eq_true rfl)
  rw [lg_entry_eq]
  generalize (lg_sl ([.ref (d0 0)]) ++ List.replicate (3 - (lg_sl ([.ref (d0 0)])).length) Slot.unset).toArray = ls at hl ⊢
  have hl : lv_has ls 3 [(0, .ref (d0 0))] := hl
  have ht := (xX9_lying_s S0).symm.trans ht
  obtain ⟨Q, hQ⟩ : ∃ Q, Q = MQ below (vp_Si (fun x => x = tg ∧ True)) ([.ref (d0 0)] : List Value).toArray s 0 0 (fun _ => False) := ⟨_, rfl⟩
  rw [← hQ]
  have L4 : ∀ (n : Nat) (x1 : Int32) (x2 : Int32) (ls : Array Slot) (_ : lv_has ls 3 [(0, .ref (d0 0)), (1, .int x1), (2, .int x2)]) (_ : xX9_lying_h4 S0 n x1 x2 = some tg), W p l e (headSpec wsX9_lying rmX9_lying).room s m ([.ref (d0 0)] : List Value).toArray below meth c s.heap [] 0 0 Q (F0 m 4 ls []) := by
    intro n
    induction n with
    | zero =>
      intro x1 x2 ls hl ht
      exact it_z ht
    | succ n4 ih4 =>
      intro x1 x2 ls hl ht
      have ht := (xX9_lying_h4_s S0 n4 x1 x2).symm.trans ht
      refine lv_iload_n hx hb dX9_lying_4 rfl (lv_at hl 2 rfl) ?_
      refine lv_bipush (v := 8) hx hb dX9_lying_5 (by decide) ?_
      refine lv_icmp_ge (tgt := 35) hx hb dX9_lying_7 (by decide) (fun c1 => ?_) (fun c1 => ?_)
      · have ht := it_p c1 ht
        refine lv_iload_n hx hb dX9_lying_35 rfl (lv_at hl 1 rfl) ?_
        subst hQ
        have ht := Option.some.inj ht
        exact W.iret (v := x1) hx hb hr (fun t e1 hW => ⟨_, rfl, ⟨ht, trivial⟩, e1⟩) (fun q h => absurd h List.not_mem_nil) dX9_lying_36
      · have ht := it_n c1 ht
        refine lv_iload_n hx hb dX9_lying_10 rfl (lv_at hl 1 rfl) ?_
        refine lv_aload_n hx hb dX9_lying_11 rfl (lv_at hl 0 rfl) ?_
        refine va_get (D := D) (ci := 9) (v := .ref (d0 3)) (C := RX9) (T := TX9) (N := 37) hx hb hts hi9 hown hE.1 hP 0 rfl rfl 2 (by decide) hw0 (fun _ h9 => h9) rfl dX9_lying_12 ?_
        refine lv_iload_n hx hb dX9_lying_15 rfl (lv_at hl 2 rfl) ?_
        obtain ⟨g2, ht⟩ := it_g ht
        refine va_iald hx hb hE.1 hP 3 0 rfl rfl (q_in g2) dX9_lying_16 ?_
        refine lv_if_lt (tgt := 26) hx hb dX9_lying_17 (by decide) (fun c3 => ?_) (fun c3 => ?_)
        · have ht := it_p c3 ht
          refine lv_iconst (v := 0) hx hb dX9_lying_26 (by decide) ?_
          refine lv_ior hx hb dX9_lying_27 ?_
          refine lv_istore_n (lv' := [(1, .int (x1 ||| 0)), (0, .ref (d0 0)), (2, .int x2)]) hx hb dX9_lying_28 rfl hl (by decide) rfl (fun ls hl => ?_)
          refine lv_iinc (v := x2 + 1) (lv' := [(2, .int (x2 + 1)), (1, .int (x1 ||| 0)), (0, .ref (d0 0))]) hx hb dX9_lying_29 hl (k := 2) rfl rfl (by decide) rfl (fun ls hl => ?_)
          refine lv_goto (tgt := 4) hx hb dX9_lying_32 (by decide) ?_
          exact ih4 (x1 ||| 0) (x2 + 1) ls (lv_sub hl [2, 1, 0] rfl) ht
        · have ht := it_n c3 ht
          refine lv_iconst (v := 1) hx hb dX9_lying_20 (by decide) ?_
          refine lv_iload_n hx hb dX9_lying_21 rfl (lv_at hl 2 rfl) ?_
          refine q_ishl hx hb dX9_lying_22 ?_
          refine lv_goto (tgt := 27) hx hb dX9_lying_23 (by decide) ?_
          refine lv_ior hx hb dX9_lying_27 ?_
          refine lv_istore_n (lv' := [(1, .int (x1 ||| (q_shl 1 x2))), (0, .ref (d0 0)), (2, .int x2)]) hx hb dX9_lying_28 rfl hl (by decide) rfl (fun ls hl => ?_)
          refine lv_iinc (v := x2 + 1) (lv' := [(2, .int (x2 + 1)), (1, .int (x1 ||| (q_shl 1 x2))), (0, .ref (d0 0))]) hx hb dX9_lying_29 hl (k := 2) rfl rfl (by decide) rfl (fun ls hl => ?_)
          refine lv_goto (tgt := 4) hx hb dX9_lying_32 (by decide) ?_
          exact ih4 (x1 ||| (q_shl 1 x2)) (x2 + 1) ls (lv_sub hl [2, 1, 0] rfl) ht
  refine lv_iconst (v := 0) hx hb dX9_lying_0 (by decide) ?_
  refine lv_istore_n (lv' := [(1, .int 0), (0, .ref (d0 0))]) hx hb dX9_lying_1 rfl hl (by decide) rfl (fun ls hl => ?_)
  refine lv_iconst (v := 0) hx hb dX9_lying_2 (by decide) ?_
  refine lv_istore_n (lv' := [(2, .int 0), (1, .int 0), (0, .ref (d0 0))]) hx hb dX9_lying_3 rfl hl (by decide) rfl (fun ls hl => ?_)
  exact L4 5000 0 0 ls (lv_sub hl [2, 1, 0] rfl) ht
abbrev rmX9_figures : Room := { frames := 0, cells := 0, slots := 0, locals := 0 }
set_option maxHeartbeats 4000000 in
set_option maxRecDepth 100000 in
theorem kX9_figures (l : Launch) (D : va_G) (cI cZ cO : ClassId) (d0 : Nat → Nat) (S0 : St) (tg : Int32) (ht : xX9_figures S0 = some tg) : Met l yX9_figures wsX9_figures rmX9_figures (q_PR D cI cZ cO [.ref (d0 0)] (wg9 cI cZ d0 S0)) (vp_Si (fun x => x = tg ∧ True)) 0 0 (fun _ => False) := by
  refine Met.ofW (cc := cX9_figures) (maxL := 3) (ret := (some .int)) (by decide) rfl ?_
  intro p e s m args below meth c s₁ B hml hv
  obtain ⟨rfl, hE, hP⟩ := hv
  have hx := B.exec
  have hb := B.bytes
  have hr := B.returns
  have hts := atoms_spec (ws := wsX9_figures) B.pre
  have hown : s.vm.findClass RX9 = some m.cls := findClass_of_methodNamed B.named
  have hlocks := B.notSynchronized
  have hi9 : ∀ w ∈ u_ws RX9 TX9 37, w ∈ wsX9_figures := by decide +kernel
  have hw0 := hts (.fieldLink RX9 22 "HailNamesModel" "figure" "[I") (by decide +kernel)
  have hl := lv_entry ([.ref (d0 0)]) (n := 3) (Nat.le_of_ble_eq_true rfl)
  rw [lg_entry_eq]
  generalize (lg_sl ([.ref (d0 0)]) ++ List.replicate (3 - (lg_sl ([.ref (d0 0)])).length) Slot.unset).toArray = ls at hl ⊢
  have hl : lv_has ls 3 [(0, .ref (d0 0))] := hl
  have ht := (xX9_figures_s S0).symm.trans ht
  obtain ⟨Q, hQ⟩ : ∃ Q, Q = MQ below (vp_Si (fun x => x = tg ∧ True)) ([.ref (d0 0)] : List Value).toArray s 0 0 (fun _ => False) := ⟨_, rfl⟩
  rw [← hQ]
  have L4 : ∀ (n : Nat) (x1 : Int32) (x2 : Int32) (ls : Array Slot) (_ : lv_has ls 3 [(0, .ref (d0 0)), (1, .int x1), (2, .int x2)]) (_ : xX9_figures_h4 S0 n x1 x2 = some tg), W p l e (headSpec wsX9_figures rmX9_figures).room s m ([.ref (d0 0)] : List Value).toArray below meth c s.heap [] 0 0 Q (F0 m 4 ls []) := by
    intro n
    induction n with
    | zero =>
      intro x1 x2 ls hl ht
      exact it_z ht
    | succ n4 ih4 =>
      intro x1 x2 ls hl ht
      have ht := (xX9_figures_h4_s S0 n4 x1 x2).symm.trans ht
      refine lv_iload_n hx hb dX9_figures_4 rfl (lv_at hl 2 rfl) ?_
      refine lv_bipush (v := 8) hx hb dX9_figures_5 (by decide) ?_
      refine lv_icmp_ge (tgt := 25) hx hb dX9_figures_7 (by decide) (fun c1 => ?_) (fun c1 => ?_)
      · have ht := it_p c1 ht
        refine lv_iload_n hx hb dX9_figures_25 rfl (lv_at hl 1 rfl) ?_
        subst hQ
        have ht := Option.some.inj ht
        exact W.iret (v := x1) hx hb hr (fun t e1 hW => ⟨_, rfl, ⟨ht, trivial⟩, e1⟩) (fun q h => absurd h List.not_mem_nil) dX9_figures_26
      · have ht := it_n c1 ht
        refine lv_iload_n hx hb dX9_figures_10 rfl (lv_at hl 1 rfl) ?_
        refine lv_aload_n hx hb dX9_figures_11 rfl (lv_at hl 0 rfl) ?_
        refine va_get (D := D) (ci := 9) (v := .ref (d0 5)) (C := RX9) (T := TX9) (N := 37) hx hb hts hi9 hown hE.1 hP 0 rfl rfl 4 (by decide) hw0 (fun _ h9 => h9) rfl dX9_figures_12 ?_
        refine lv_iload_n hx hb dX9_figures_15 rfl (lv_at hl 2 rfl) ?_
        obtain ⟨g2, ht⟩ := it_g ht
        refine va_iald hx hb hE.1 hP 5 0 rfl rfl (q_in g2) dX9_figures_16 ?_
        refine lv_iadd hx hb dX9_figures_17 ?_
        refine lv_istore_n (lv' := [(1, .int (x1 + (S0 4 x2.toNatClampNeg))), (0, .ref (d0 0)), (2, .int x2)]) hx hb dX9_figures_18 rfl hl (by decide) rfl (fun ls hl => ?_)
        refine lv_iinc (v := x2 + 1) (lv' := [(2, .int (x2 + 1)), (1, .int (x1 + (S0 4 x2.toNatClampNeg))), (0, .ref (d0 0))]) hx hb dX9_figures_19 hl (k := 2) rfl rfl (by decide) rfl (fun ls hl => ?_)
        refine lv_goto (tgt := 4) hx hb dX9_figures_22 (by decide) ?_
        exact ih4 (x1 + (S0 4 x2.toNatClampNeg)) (x2 + 1) ls (lv_sub hl [2, 1, 0] rfl) ht
  refine lv_iconst (v := 0) hx hb dX9_figures_0 (by decide) ?_
  refine lv_istore_n (lv' := [(1, .int 0), (0, .ref (d0 0))]) hx hb dX9_figures_1 rfl hl (by decide) rfl (fun ls hl => ?_)
  refine lv_iconst (v := 0) hx hb dX9_figures_2 (by decide) ?_
  refine lv_istore_n (lv' := [(2, .int 0), (1, .int 0), (0, .ref (d0 0))]) hx hb dX9_figures_3 rfl hl (by decide) rfl (fun ls hl => ?_)
  exact L4 5000 0 0 ls (lv_sub hl [2, 1, 0] rfl) ht
abbrev rmX9_mostNoted : Room := { frames := 0, cells := 0, slots := 0, locals := 0 }
set_option maxHeartbeats 4000000 in
set_option maxRecDepth 100000 in
theorem kX9_mostNoted (l : Launch) (D : va_G) (cI cZ cO : ClassId) (d0 : Nat → Nat) (S0 : St) (tg : Int32) (ht : xX9_mostNoted S0 = some tg) : Met l yX9_mostNoted wsX9_mostNoted rmX9_mostNoted (q_PR D cI cZ cO [.ref (d0 0)] (wg9 cI cZ d0 S0)) (vp_Si (fun x => x = tg ∧ True)) 0 0 (fun _ => False) := by
  refine Met.ofW (cc := cX9_mostNoted) (maxL := 3) (ret := (some .int)) (by decide) rfl ?_
  intro p e s m args below meth c s₁ B hml hv
  obtain ⟨rfl, hE, hP⟩ := hv
  have hx := B.exec
  have hb := B.bytes
  have hr := B.returns
  have hts := atoms_spec (ws := wsX9_mostNoted) B.pre
  have hown : s.vm.findClass RX9 = some m.cls := findClass_of_methodNamed B.named
  have hlocks := B.notSynchronized
  have hi9 : ∀ w ∈ u_ws RX9 TX9 37, w ∈ wsX9_mostNoted := by decide +kernel
  have hw0 := hts (.fieldLink RX9 13 "HailNamesModel" "noted" "[I") (by decide +kernel)
  have hl := lv_entry ([.ref (d0 0)]) (n := 3) (Nat.le_of_ble_eq_true rfl)
  rw [lg_entry_eq]
  generalize (lg_sl ([.ref (d0 0)]) ++ List.replicate (3 - (lg_sl ([.ref (d0 0)])).length) Slot.unset).toArray = ls at hl ⊢
  have hl : lv_has ls 3 [(0, .ref (d0 0))] := hl
  have ht := (xX9_mostNoted_s S0).symm.trans ht
  obtain ⟨Q, hQ⟩ : ∃ Q, Q = MQ below (vp_Si (fun x => x = tg ∧ True)) ([.ref (d0 0)] : List Value).toArray s 0 0 (fun _ => False) := ⟨_, rfl⟩
  rw [← hQ]
  have L4 : ∀ (n : Nat) (x1 : Int32) (x2 : Int32) (ls : Array Slot) (_ : lv_has ls 3 [(0, .ref (d0 0)), (1, .int x1), (2, .int x2)]) (_ : xX9_mostNoted_h4 S0 n x1 x2 = some tg), W p l e (headSpec wsX9_mostNoted rmX9_mostNoted).room s m ([.ref (d0 0)] : List Value).toArray below meth c s.heap [] 0 0 Q (F0 m 4 ls []) := by
    intro n
    induction n with
    | zero =>
      intro x1 x2 ls hl ht
      exact it_z ht
    | succ n4 ih4 =>
      intro x1 x2 ls hl ht
      have ht := (xX9_mostNoted_h4_s S0 n4 x1 x2).symm.trans ht
      refine lv_iload_n hx hb dX9_mostNoted_4 rfl (lv_at hl 2 rfl) ?_
      refine lv_bipush (v := 8) hx hb dX9_mostNoted_5 (by decide) ?_
      refine lv_icmp_ge (tgt := 37) hx hb dX9_mostNoted_7 (by decide) (fun c1 => ?_) (fun c1 => ?_)
      · have ht := it_p c1 ht
        refine lv_iload_n hx hb dX9_mostNoted_37 rfl (lv_at hl 1 rfl) ?_
        subst hQ
        have ht := Option.some.inj ht
        exact W.iret (v := x1) hx hb hr (fun t e1 hW => ⟨_, rfl, ⟨ht, trivial⟩, e1⟩) (fun q h => absurd h List.not_mem_nil) dX9_mostNoted_38
      · have ht := it_n c1 ht
        refine lv_aload_n hx hb dX9_mostNoted_10 rfl (lv_at hl 0 rfl) ?_
        refine va_get (D := D) (ci := 9) (v := .ref (d0 2)) (C := RX9) (T := TX9) (N := 37) hx hb hts hi9 hown hE.1 hP 0 rfl rfl 1 (by decide) hw0 (fun _ h9 => h9) rfl dX9_mostNoted_11 ?_
        refine lv_iload_n hx hb dX9_mostNoted_14 rfl (lv_at hl 2 rfl) ?_
        obtain ⟨g2, ht⟩ := it_g ht
        refine va_iald hx hb hE.1 hP 2 0 rfl rfl (q_in g2) dX9_mostNoted_15 ?_
        refine lv_aload_n hx hb dX9_mostNoted_16 rfl (lv_at hl 0 rfl) ?_
        refine va_get (D := D) (ci := 9) (v := .ref (d0 2)) (C := RX9) (T := TX9) (N := 37) hx hb hts hi9 hown hE.1 hP 0 rfl rfl 1 (by decide) hw0 (fun _ h9 => h9) rfl dX9_mostNoted_17 ?_
        refine lv_iload_n hx hb dX9_mostNoted_20 rfl (lv_at hl 1 rfl) ?_
        obtain ⟨g3, ht⟩ := it_g ht
        refine va_iald hx hb hE.1 hP 2 0 rfl rfl (q_in g3) dX9_mostNoted_21 ?_
        refine lv_icmp_le (tgt := 29) hx hb dX9_mostNoted_22 (by decide) (fun c4 => ?_) (fun c4 => ?_)
        · have ht := it_p c4 ht
          refine lv_iload_n hx hb dX9_mostNoted_29 rfl (lv_at hl 1 rfl) ?_
          refine lv_istore_n (lv' := [(1, .int x1), (0, .ref (d0 0)), (2, .int x2)]) hx hb dX9_mostNoted_30 rfl hl (by decide) rfl (fun ls hl => ?_)
          refine lv_iinc (v := x2 + 1) (lv' := [(2, .int (x2 + 1)), (1, .int x1), (0, .ref (d0 0))]) hx hb dX9_mostNoted_31 hl (k := 2) rfl rfl (by decide) rfl (fun ls hl => ?_)
          refine lv_goto (tgt := 4) hx hb dX9_mostNoted_34 (by decide) ?_
          exact ih4 x1 (x2 + 1) ls (lv_sub hl [2, 1, 0] rfl) ht
        · have ht := it_n c4 ht
          refine lv_iload_n hx hb dX9_mostNoted_25 rfl (lv_at hl 2 rfl) ?_
          refine lv_goto (tgt := 30) hx hb dX9_mostNoted_26 (by decide) ?_
          refine lv_istore_n (lv' := [(1, .int x2), (0, .ref (d0 0)), (2, .int x2)]) hx hb dX9_mostNoted_30 rfl hl (by decide) rfl (fun ls hl => ?_)
          refine lv_iinc (v := x2 + 1) (lv' := [(2, .int (x2 + 1)), (1, .int x2), (0, .ref (d0 0))]) hx hb dX9_mostNoted_31 hl (k := 2) rfl rfl (by decide) rfl (fun ls hl => ?_)
          refine lv_goto (tgt := 4) hx hb dX9_mostNoted_34 (by decide) ?_
          exact ih4 x2 (x2 + 1) ls (lv_sub hl [2, 1, 0] rfl) ht
  refine lv_iconst (v := 0) hx hb dX9_mostNoted_0 (by decide) ?_
  refine lv_istore_n (lv' := [(1, .int 0), (0, .ref (d0 0))]) hx hb dX9_mostNoted_1 rfl hl (by decide) rfl (fun ls hl => ?_)
  refine lv_iconst (v := 1) hx hb dX9_mostNoted_2 (by decide) ?_
  refine lv_istore_n (lv' := [(2, .int 1), (1, .int 0), (0, .ref (d0 0))]) hx hb dX9_mostNoted_3 rfl hl (by decide) rfl (fun ls hl => ?_)
  exact L4 5000 0 1 ls (lv_sub hl [2, 1, 0] rfl) ht
abbrev rmX9_yard : Room := { frames := 7, cells := 0, slots := 0, locals := 152 }
set_option maxHeartbeats 4000000 in
set_option maxRecDepth 100000 in
theorem kX9_yard (l : Launch) (D : va_G) (cI cZ cO : ClassId) (d0 : Nat → Nat) (sz : Nat) (S0 : St) (p0 : Int32) (tg : Int32 × St) (ht : xX9_yard p0 S0 = some tg) : Met l yX9_yard wsX9_yard rmX9_yard (q_PM D cI cZ cO [.ref (d0 0), .int p0] sz (wg9 cI cZ d0 S0)) (va_Qi (fun x (_ : Unit) => x = tg.1 ∧ True) (fun _ t => va_P D vwCl (wg9 cI cZ d0 tg.2) t.heap) (va_A (wg9 cI cZ d0 S0) sz)) 0 0 (va_A (wg9 cI cZ d0 S0) sz) := by
  refine Met.ofW (cc := cX9_yard) (maxL := 3) (ret := (some .int)) (by decide) rfl ?_
  intro p e s m args below meth c s₁ B hml hv
  obtain ⟨rfl, hsz, hE, hP, hD0⟩ := hv
  have hx := B.exec
  have hb := B.bytes
  have hr := B.returns
  have hts := atoms_spec (ws := wsX9_yard) B.pre
  have hown : s.vm.findClass RX9 = some m.cls := findClass_of_methodNamed B.named
  have hlocks := B.notSynchronized
  have hi9 : ∀ w ∈ u_ws RX9 TX9 37, w ∈ wsX9_yard := by decide +kernel
  have hw0 := hts (.constantLong RX9 87 (3)) (by decide +kernel)
  have hw1 := hts (.fieldLink RX9 156 "HailNamesModel" "seconds" "I") (by decide +kernel)
  subst hsz
  have hD1 := hD0.self (sz := s.heap.size)
  generalize hAe : va_A (wg9 cI cZ d0 S0) s.heap.size = A at hD1 ⊢
  have hA : ∀ q : Nat, s.heap.size ≤ q → A q := fun q h => by rw [← hAe]; exact Or.inr h
  have hS : va_S A s.heap s.heap [] := va_S.rf
  have hD : ∀ (S0 : St), va_D A (wg9 cI cZ d0 S0) := fun S0 => q_D hD1 rfl
  have hl := lv_entry ([.ref (d0 0), .int p0]) (n := 3) (Nat.le_of_ble_eq_true rfl)
  rw [lg_entry_eq]
  generalize (lg_sl ([.ref (d0 0), .int p0]) ++ List.replicate (3 - (lg_sl ([.ref (d0 0), .int p0])).length) Slot.unset).toArray = ls at hl ⊢
  have hl : lv_has ls 3 [(0, .ref (d0 0)), (1, .int p0)] := hl
  have ht := (xX9_yard_s p0 S0).symm.trans ht
  obtain ⟨Q, hQ⟩ : ∃ Q, Q = MQ below (va_Qi (fun x (_ : Unit) => x = tg.1 ∧ True) (fun _ t => va_P D vwCl (wg9 cI cZ d0 tg.2) t.heap) A) ([.ref (d0 0), .int p0] : List Value).toArray s 0 0 A := ⟨_, rfl⟩
  rw [← hQ]
  have J70 : ∀ (z1 : Int32) (S0 : St) (H : Heap) (locs : List Loc) (_ : va_P D vwCl (wg9 cI cZ d0 S0) H) (_ : va_S A s.heap H locs) (ls : Array Slot) (_ : lv_has ls 3 []) (_ : xX9_yard_h70 p0 z1 S0 = some tg), W p l e (headSpec wsX9_yard rmX9_yard).room s m ([.ref (d0 0), .int p0] : List Value).toArray below meth c H locs 0 0 Q (F0 m 70 ls [.int z1, .ref (d0 0)]) := by
    intro z1 S0 H locs hP hS ls hl ht
    have ht := (xX9_yard_h70_s p0 z1 S0).symm.trans ht
    obtain ⟨q15, hq15, ht⟩ := it_b ht
    have hFc := q_freeW (hD S0) hS hA
    refine q_mi (va_runV (As := [.int z1]) (rest := []) ⟨hx, hb, hml, hown, hts⟩ (kX9_back l D cI cZ cO d0 H.size S0 z1 q15 hq15) (cwV 1 hts gX9_yard_X9_back rfl rfl rfl (by decide +kernel) ⟨Nat.le_of_ble_eq_true rfl, Nat.le_of_ble_eq_true rfl⟩) (q_mV (As := [.int z1]) hE hP (hD S0) (q0 := 0) (ci := 9) rfl rfl) rfl rfl hl.1 rfl (lv_room (Nat.le_of_ble_eq_true rfl)) dX9_yard_70 ⟨Nat.le_of_ble_eq_true rfl, Nat.le_of_ble_eq_true rfl⟩) hS hFc (fun H locs b16 hP1 hk hS => ?_)
    have hP : va_P D vwCl (wg9 cI cZ d0 q15.2) H := hP1
    subst hQ
    obtain rfl := Option.some.inj ht
    exact W.iret (v := q15.1) hx hb hr (fun t e1 hW => ⟨⟨_, (), rfl, ⟨rfl, trivial⟩, q_at e1 hP⟩, hS.F e1⟩) hS.2.2 dX9_yard_73
  refine lv_iload_n hx hb dX9_yard_0 rfl (lv_at hl 1 rfl) ?_
  refine lv_i2l (v := p0.toInt64) hx hb dX9_yard_1 rfl ?_
  refine lv_lconst (v := 0) hx hb dX9_yard_2 (by decide) ?_
  refine lv_ldc2 hx hb hown hw0 dX9_yard_3 ?_
  refine q_ri (va_runS (As := [.long p0.toInt64, .long 0, .long 3]) (rest := []) ⟨hx, hb, hml, hown, hts⟩ (kX9_in l D cI cZ cO p0.toInt64 0 3) (va_cwS 3 hts gX9_yard_X9_in rfl rfl rfl (by decide +kernel) ⟨Nat.le_of_ble_eq_true rfl, Nat.le_of_ble_eq_true rfl⟩) (q_rS hE q_nil) rfl rfl hl.1 rfl (lv_room (Nat.le_of_ble_eq_true rfl)) dX9_yard_6 ⟨Nat.le_of_ble_eq_true rfl, Nat.le_of_ble_eq_true rfl⟩) (fun b1 => ?_)
  refine lv_if_ne (tgt := 15) hx hb dX9_yard_9 (by decide) (fun c2 => ?_) (fun c2 => ?_)
  · have ht := it_n c2 ht
    refine lv_aload_n hx hb dX9_yard_15 rfl (lv_at hl 0 rfl) ?_
    obtain ⟨q3, hq3, ht⟩ := it_b ht
    have hFc := q_freeW (hD S0) hS hA
    refine q_mi (va_runV (As := []) (rest := []) ⟨hx, hb, hml, hown, hts⟩ (kX9_refusal l D cI cZ cO d0 s.heap.size S0 q3 hq3) (cwV 0 hts gX9_yard_X9_refusal rfl rfl rfl (by decide +kernel) ⟨Nat.le_of_ble_eq_true rfl, Nat.le_of_ble_eq_true rfl⟩) (q_mV (As := []) hE hP (hD S0) (q0 := 0) (ci := 9) rfl rfl) rfl rfl hl.1 rfl (lv_room (Nat.le_of_ble_eq_true rfl)) dX9_yard_16 ⟨Nat.le_of_ble_eq_true rfl, Nat.le_of_ble_eq_true rfl⟩) hS hFc (fun H locs b4 hP1 hk hS => ?_)
    have hP : va_P D vwCl (wg9 cI cZ d0 q3.2) H := hP1
    refine lv_istore_n (lv' := [(2, .int q3.1), (0, .ref (d0 0)), (1, .int p0)]) hx hb dX9_yard_19 rfl hl (by decide) rfl (fun ls hl => ?_)
    refine lv_aload_n hx hb dX9_yard_20 rfl (lv_at hl 1 rfl) ?_
    refine lv_iload_n hx hb dX9_yard_21 rfl (lv_at hl 0 rfl) ?_
    refine lv_bipush (v := (-6)) hx hb dX9_yard_22 (by decide) ?_
    refine lv_icmp_eq (tgt := 31) hx hb dX9_yard_24 (by decide) (fun c5 => ?_) (fun c5 => ?_)
    · have ht := it_p c5 ht
      refine lv_iload_n hx hb dX9_yard_31 rfl (lv_at hl 2 rfl) ?_
      refine lv_if_ne (tgt := 42) hx hb dX9_yard_32 (by decide) (fun c6 => ?_) (fun c6 => ?_)
      · have ht := it_n c6 ht
        refine lv_iload_n hx hb dX9_yard_42 rfl (lv_at hl 2 rfl) ?_
        refine lv_iconst (v := 1) hx hb dX9_yard_43 (by decide) ?_
        refine lv_icmp_ne (tgt := 54) hx hb dX9_yard_44 (by decide) (fun c7 => ?_) (fun c7 => ?_)
        · have ht := it_n c7 ht
          refine lv_iload_n hx hb dX9_yard_54 rfl (lv_at hl 2 rfl) ?_
          refine lv_iconst (v := 2) hx hb dX9_yard_55 (by decide) ?_
          refine lv_icmp_ne (tgt := 66) hx hb dX9_yard_56 (by decide) (fun c8 => ?_) (fun c8 => ?_)
          · have ht := it_n c8 ht
            refine lv_aload_n hx hb dX9_yard_66 rfl (lv_at hl 1 rfl) ?_
            obtain ⟨q9, hq9, ht⟩ := it_b ht
            refine q_ri (va_runV (As := []) (rest := [.ref (d0 0)]) ⟨hx, hb, hml, hown, hts⟩ (kX9_mostNoted l D cI cZ cO d0 q3.2 q9 hq9) (cwV 0 hts gX9_yard_X9_mostNoted rfl rfl rfl (by decide +kernel) ⟨Nat.le_of_ble_eq_true rfl, Nat.le_of_ble_eq_true rfl⟩) (q_rV (As := []) hE hP (q0 := 0) (ci := 9) rfl rfl) rfl rfl hl.1 rfl (lv_room (Nat.le_of_ble_eq_true rfl)) dX9_yard_67 ⟨Nat.le_of_ble_eq_true rfl, Nat.le_of_ble_eq_true rfl⟩) (fun b10 => ?_)
            exact J70 q9 q3.2 _ _ hP hS ls (lv_sub hl [] rfl) ht
          · have ht := it_p c8 ht
            refine lv_aload_n hx hb dX9_yard_59 rfl (lv_at hl 1 rfl) ?_
            obtain ⟨q11, hq11, ht⟩ := it_b ht
            refine q_ri (va_runV (As := []) (rest := [.ref (d0 0)]) ⟨hx, hb, hml, hown, hts⟩ (kX9_figures l D cI cZ cO d0 q3.2 q11 hq11) (cwV 0 hts gX9_yard_X9_figures rfl rfl rfl (by decide +kernel) ⟨Nat.le_of_ble_eq_true rfl, Nat.le_of_ble_eq_true rfl⟩) (q_rV (As := []) hE hP (q0 := 0) (ci := 9) rfl rfl) rfl rfl hl.1 rfl (lv_room (Nat.le_of_ble_eq_true rfl)) dX9_yard_60 ⟨Nat.le_of_ble_eq_true rfl, Nat.le_of_ble_eq_true rfl⟩) (fun b12 => ?_)
            refine lv_goto (tgt := 70) hx hb dX9_yard_63 (by decide) ?_
            exact J70 q11 q3.2 _ _ hP hS ls (lv_sub hl [] rfl) ht
        · have ht := it_p c7 ht
          refine lv_aload_n hx hb dX9_yard_47 rfl (lv_at hl 1 rfl) ?_
          obtain ⟨q13, hq13, ht⟩ := it_b ht
          refine q_ri (va_runV (As := []) (rest := [.ref (d0 0)]) ⟨hx, hb, hml, hown, hts⟩ (kX9_lying l D cI cZ cO d0 q3.2 q13 hq13) (cwV 0 hts gX9_yard_X9_lying rfl rfl rfl (by decide +kernel) ⟨Nat.le_of_ble_eq_true rfl, Nat.le_of_ble_eq_true rfl⟩) (q_rV (As := []) hE hP (q0 := 0) (ci := 9) rfl rfl) rfl rfl hl.1 rfl (lv_room (Nat.le_of_ble_eq_true rfl)) dX9_yard_48 ⟨Nat.le_of_ble_eq_true rfl, Nat.le_of_ble_eq_true rfl⟩) (fun b14 => ?_)
          refine lv_goto (tgt := 70) hx hb dX9_yard_51 (by decide) ?_
          exact J70 q13 q3.2 _ _ hP hS ls (lv_sub hl [] rfl) ht
      · have ht := it_p c6 ht
        refine lv_aload_n hx hb dX9_yard_35 rfl (lv_at hl 1 rfl) ?_
        refine va_get (D := D) (ci := 9) (v := .int (q3.2 10 0)) (C := RX9) (T := TX9) (N := 37) hx hb hts hi9 hown hE.1 hP 0 rfl rfl 10 (by decide) hw1 (fun _ h9 => h9) rfl dX9_yard_36 ?_
        refine lv_goto (tgt := 70) hx hb dX9_yard_39 (by decide) ?_
        exact J70 (q3.2 10 0) q3.2 _ _ hP hS ls (lv_sub hl [] rfl) ht
    · have ht := it_n c5 ht
      refine lv_iload_n hx hb dX9_yard_27 rfl (lv_at hl 0 rfl) ?_
      refine lv_goto (tgt := 70) hx hb dX9_yard_28 (by decide) ?_
      exact J70 q3.1 q3.2 _ _ hP hS ls (lv_sub hl [] rfl) ht
  · have ht := it_p c2 ht
    refine lv_bipush (v := (-2)) hx hb dX9_yard_12 (by decide) ?_
    subst hQ
    obtain rfl := Option.some.inj ht
    exact W.iret (v := (-2)) hx hb hr (fun t e1 hW => ⟨⟨_, (), rfl, ⟨rfl, trivial⟩, q_at e1 hP⟩, hS.F e1⟩) hS.2.2 dX9_yard_14
abbrev rmX9_lost : Room := { frames := 7, cells := 0, slots := 0, locals := 152 }
set_option maxHeartbeats 4000000 in
set_option maxRecDepth 100000 in
theorem kX9_lost (l : Launch) (D : va_G) (cI cZ cO : ClassId) (d0 : Nat → Nat) (sz : Nat) (S0 : St) (p0 : Int32) (tg : Int32 × St) (ht : xX9_lost p0 S0 = some tg) : Met l yX9_lost wsX9_lost rmX9_lost (q_PM D cI cZ cO [.ref (d0 0), .int p0] sz (wg9 cI cZ d0 S0)) (va_Qi (fun x (_ : Unit) => x = tg.1 ∧ True) (fun _ t => va_P D vwCl (wg9 cI cZ d0 tg.2) t.heap) (va_A (wg9 cI cZ d0 S0) sz)) 0 0 (va_A (wg9 cI cZ d0 S0) sz) := by
  refine Met.ofW (cc := cX9_lost) (maxL := 3) (ret := (some .int)) (by decide) rfl ?_
  intro p e s m args below meth c s₁ B hml hv
  obtain ⟨rfl, hsz, hE, hP, hD0⟩ := hv
  have hx := B.exec
  have hb := B.bytes
  have hr := B.returns
  have hts := atoms_spec (ws := wsX9_lost) B.pre
  have hown : s.vm.findClass RX9 = some m.cls := findClass_of_methodNamed B.named
  have hlocks := B.notSynchronized
  have hi9 : ∀ w ∈ u_ws RX9 TX9 37, w ∈ wsX9_lost := by decide +kernel
  have hw0 := hts (.fieldLink RX9 210 "HailNamesModel" "lostWhose" "I") (by decide +kernel)
  have hw1 := hts (.fieldLink RX9 207 "HailNamesModel" "lostAct" "I") (by decide +kernel)
  subst hsz
  have hD1 := hD0.self (sz := s.heap.size)
  generalize hAe : va_A (wg9 cI cZ d0 S0) s.heap.size = A at hD1 ⊢
  have hA : ∀ q : Nat, s.heap.size ≤ q → A q := fun q h => by rw [← hAe]; exact Or.inr h
  have hS : va_S A s.heap s.heap [] := va_S.rf
  have hD : ∀ (S0 : St), va_D A (wg9 cI cZ d0 S0) := fun S0 => q_D hD1 rfl
  have hl := lv_entry ([.ref (d0 0), .int p0]) (n := 3) (Nat.le_of_ble_eq_true rfl)
  rw [lg_entry_eq]
  generalize (lg_sl ([.ref (d0 0), .int p0]) ++ List.replicate (3 - (lg_sl ([.ref (d0 0), .int p0])).length) Slot.unset).toArray = ls at hl ⊢
  have hl : lv_has ls 3 [(0, .ref (d0 0)), (1, .int p0)] := hl
  have ht := (xX9_lost_s p0 S0).symm.trans ht
  refine lv_iload_n hx hb dX9_lost_0 rfl (lv_at hl 1 rfl) ?_
  refine lv_i2l (v := p0.toInt64) hx hb dX9_lost_1 rfl ?_
  refine lv_lconst (v := 0) hx hb dX9_lost_2 (by decide) ?_
  refine lv_lconst (v := 1) hx hb dX9_lost_3 (by decide) ?_
  refine q_ri (va_runS (As := [.long p0.toInt64, .long 0, .long 1]) (rest := []) ⟨hx, hb, hml, hown, hts⟩ (kX9_in l D cI cZ cO p0.toInt64 0 1) (va_cwS 3 hts gX9_lost_X9_in rfl rfl rfl (by decide +kernel) ⟨Nat.le_of_ble_eq_true rfl, Nat.le_of_ble_eq_true rfl⟩) (q_rS hE q_nil) rfl rfl hl.1 rfl (lv_room (Nat.le_of_ble_eq_true rfl)) dX9_lost_4 ⟨Nat.le_of_ble_eq_true rfl, Nat.le_of_ble_eq_true rfl⟩) (fun b1 => ?_)
  refine lv_if_ne (tgt := 13) hx hb dX9_lost_7 (by decide) (fun c2 => ?_) (fun c2 => ?_)
  · have ht := it_n c2 ht
    refine lv_aload_n hx hb dX9_lost_13 rfl (lv_at hl 0 rfl) ?_
    refine lv_aload_n hx hb dX9_lost_14 rfl (lv_at hl 0 rfl) ?_
    obtain ⟨q3, hq3, ht⟩ := it_b ht
    have hFc := q_freeW (hD S0) hS hA
    refine q_mi (va_runV (As := []) (rest := [.ref (d0 0)]) ⟨hx, hb, hml, hown, hts⟩ (kX9_refusal l D cI cZ cO d0 s.heap.size S0 q3 hq3) (cwV 0 hts gX9_lost_X9_refusal rfl rfl rfl (by decide +kernel) ⟨Nat.le_of_ble_eq_true rfl, Nat.le_of_ble_eq_true rfl⟩) (q_mV (As := []) hE hP (hD S0) (q0 := 0) (ci := 9) rfl rfl) rfl rfl hl.1 rfl (lv_room (Nat.le_of_ble_eq_true rfl)) dX9_lost_15 ⟨Nat.le_of_ble_eq_true rfl, Nat.le_of_ble_eq_true rfl⟩) hS hFc (fun H locs b4 hP1 hk hS => ?_)
    have hP : va_P D vwCl (wg9 cI cZ d0 q3.2) H := hP1
    obtain ⟨q5, hq5, ht⟩ := it_b ht
    have hFc := q_freeW (hD q3.2) hS hA
    refine q_mi (va_runV (As := [.int q3.1]) (rest := []) ⟨hx, hb, hml, hown, hts⟩ (kX9_back l D cI cZ cO d0 H.size q3.2 q3.1 q5 hq5) (cwV 1 hts gX9_lost_X9_back rfl rfl rfl (by decide +kernel) ⟨Nat.le_of_ble_eq_true rfl, Nat.le_of_ble_eq_true rfl⟩) (q_mV (As := [.int q3.1]) hE hP (hD q3.2) (q0 := 0) (ci := 9) rfl rfl) rfl rfl hl.1 rfl (lv_room (Nat.le_of_ble_eq_true rfl)) dX9_lost_18 ⟨Nat.le_of_ble_eq_true rfl, Nat.le_of_ble_eq_true rfl⟩) hS hFc (fun H locs b6 hP1 hk hS => ?_)
    have hP : va_P D vwCl (wg9 cI cZ d0 q5.2) H := hP1
    refine lv_istore_n (lv' := [(2, .int q5.1), (0, .ref (d0 0)), (1, .int p0)]) hx hb dX9_lost_21 rfl hl (by decide) rfl (fun ls hl => ?_)
    refine lv_iload_n hx hb dX9_lost_22 rfl (lv_at hl 0 rfl) ?_
    refine lv_bipush (v := (-6)) hx hb dX9_lost_23 (by decide) ?_
    refine lv_icmp_eq (tgt := 32) hx hb dX9_lost_25 (by decide) (fun c7 => ?_) (fun c7 => ?_)
    · have ht := it_p c7 ht
      refine lv_iload_n hx hb dX9_lost_32 rfl (lv_at hl 2 rfl) ?_
      refine lv_if_ne (tgt := 43) hx hb dX9_lost_33 (by decide) (fun c8 => ?_) (fun c8 => ?_)
      · have ht := it_n c8 ht
        refine lv_aload_n hx hb dX9_lost_43 rfl (lv_at hl 1 rfl) ?_
        refine va_get (D := D) (ci := 9) (v := .int (q5.2 29 0)) (C := RX9) (T := TX9) (N := 37) hx hb hts hi9 hown hE.1 hP 0 rfl rfl 29 (by decide) hw0 (fun _ h9 => h9) rfl dX9_lost_44 ?_
        obtain rfl := Option.some.inj ht
        exact W.iret (v := q5.2 29 0) hx hb hr (fun t e1 hW => ⟨⟨_, (), rfl, ⟨rfl, trivial⟩, q_at e1 hP⟩, hS.F e1⟩) hS.2.2 dX9_lost_47
      · have ht := it_p c8 ht
        refine lv_aload_n hx hb dX9_lost_36 rfl (lv_at hl 1 rfl) ?_
        refine va_get (D := D) (ci := 9) (v := .int (q5.2 28 0)) (C := RX9) (T := TX9) (N := 37) hx hb hts hi9 hown hE.1 hP 0 rfl rfl 28 (by decide) hw1 (fun _ h9 => h9) rfl dX9_lost_37 ?_
        refine lv_goto (tgt := 47) hx hb dX9_lost_40 (by decide) ?_
        obtain rfl := Option.some.inj ht
        exact W.iret (v := q5.2 28 0) hx hb hr (fun t e1 hW => ⟨⟨_, (), rfl, ⟨rfl, trivial⟩, q_at e1 hP⟩, hS.F e1⟩) hS.2.2 dX9_lost_47
    · have ht := it_n c7 ht
      refine lv_iload_n hx hb dX9_lost_28 rfl (lv_at hl 0 rfl) ?_
      refine lv_goto (tgt := 47) hx hb dX9_lost_29 (by decide) ?_
      obtain rfl := Option.some.inj ht
      exact W.iret (v := q5.1) hx hb hr (fun t e1 hW => ⟨⟨_, (), rfl, ⟨rfl, trivial⟩, q_at e1 hP⟩, hS.F e1⟩) hS.2.2 dX9_lost_47
  · have ht := it_p c2 ht
    refine lv_bipush (v := (-2)) hx hb dX9_lost_10 (by decide) ?_
    obtain rfl := Option.some.inj ht
    exact W.iret (v := (-2)) hx hb hr (fun t e1 hW => ⟨⟨_, (), rfl, ⟨rfl, trivial⟩, q_at e1 hP⟩, hS.F e1⟩) hS.2.2 dX9_lost_12
abbrev rmX9_done : Room := { frames := 7, cells := 0, slots := 0, locals := 152 }
set_option maxHeartbeats 4000000 in
set_option maxRecDepth 100000 in
theorem kX9_done (l : Launch) (D : va_G) (cI cZ cO : ClassId) (d0 : Nat → Nat) (sz : Nat) (S0 : St) (tg : Int32 × St) (ht : xX9_done S0 = some tg) : Met l yX9_done wsX9_done rmX9_done (q_PM D cI cZ cO [.ref (d0 0)] sz (wg9 cI cZ d0 S0)) (va_Qi (fun x (_ : Unit) => x = tg.1 ∧ True) (fun _ t => va_P D vwCl (wg9 cI cZ d0 tg.2) t.heap) (va_A (wg9 cI cZ d0 S0) sz)) 0 0 (va_A (wg9 cI cZ d0 S0) sz) := by
  refine Met.ofW (cc := cX9_done) (maxL := 2) (ret := (some .int)) (by decide) rfl ?_
  intro p e s m args below meth c s₁ B hml hv
  obtain ⟨rfl, hsz, hE, hP, hD0⟩ := hv
  have hx := B.exec
  have hb := B.bytes
  have hr := B.returns
  have hts := atoms_spec (ws := wsX9_done) B.pre
  have hown : s.vm.findClass RX9 = some m.cls := findClass_of_methodNamed B.named
  have hlocks := B.notSynchronized
  have hi9 : ∀ w ∈ u_ws RX9 TX9 37, w ∈ wsX9_done := by decide +kernel
  have hw0 := hts (.fieldLink RX9 115 "HailNamesModel" "padMany" "I") (by decide +kernel)
  have hw1 := hts (.fieldLink RX9 118 "HailNamesModel" "acts" "I") (by decide +kernel)
  subst hsz
  have hD1 := hD0.self (sz := s.heap.size)
  generalize hAe : va_A (wg9 cI cZ d0 S0) s.heap.size = A at hD1 ⊢
  have hA : ∀ q : Nat, s.heap.size ≤ q → A q := fun q h => by rw [← hAe]; exact Or.inr h
  have hS : va_S A s.heap s.heap [] := va_S.rf
  have hD : ∀ (S0 : St), va_D A (wg9 cI cZ d0 S0) := fun S0 => q_D hD1 rfl
  have hl := lv_entry ([.ref (d0 0)]) (n := 2) (Nat.le_of_ble_eq_true rfl)
  rw [lg_entry_eq]
  generalize (lg_sl ([.ref (d0 0)]) ++ List.replicate (2 - (lg_sl ([.ref (d0 0)])).length) Slot.unset).toArray = ls at hl ⊢
  have hl : lv_has ls 2 [(0, .ref (d0 0))] := hl
  have ht := (xX9_done_s S0).symm.trans ht
  refine lv_aload_n hx hb dX9_done_0 rfl (lv_at hl 0 rfl) ?_
  obtain ⟨q1, hq1, ht⟩ := it_b ht
  have hFc := q_freeW (hD S0) hS hA
  refine q_mi (va_runV (As := []) (rest := []) ⟨hx, hb, hml, hown, hts⟩ (kX9_refusal l D cI cZ cO d0 s.heap.size S0 q1 hq1) (cwV 0 hts gX9_done_X9_refusal rfl rfl rfl (by decide +kernel) ⟨Nat.le_of_ble_eq_true rfl, Nat.le_of_ble_eq_true rfl⟩) (q_mV (As := []) hE hP (hD S0) (q0 := 0) (ci := 9) rfl rfl) rfl rfl hl.1 rfl (lv_room (Nat.le_of_ble_eq_true rfl)) dX9_done_1 ⟨Nat.le_of_ble_eq_true rfl, Nat.le_of_ble_eq_true rfl⟩) hS hFc (fun H locs b2 hP1 hk hS => ?_)
  have hP : va_P D vwCl (wg9 cI cZ d0 q1.2) H := hP1
  refine lv_istore_n (lv' := [(1, .int q1.1), (0, .ref (d0 0))]) hx hb dX9_done_4 rfl hl (by decide) rfl (fun ls hl => ?_)
  refine lv_iload_n hx hb dX9_done_5 rfl (lv_at hl 0 rfl) ?_
  refine lv_bipush (v := (-6)) hx hb dX9_done_6 (by decide) ?_
  refine lv_icmp_eq (tgt := 17) hx hb dX9_done_8 (by decide) (fun c3 => ?_) (fun c3 => ?_)
  · have ht := it_p c3 ht
    refine lv_aload_n hx hb dX9_done_17 rfl (lv_at hl 1 rfl) ?_
    refine lv_iconst (v := 0) hx hb dX9_done_18 (by decide) ?_
    refine va_put (D := D) (ci := 9) (v := .int 0) (ty := .int) (C := RX9) (T := TX9) (N := 37) hx hb hts hi9 tyX9 tyX9_ok nmX9 hown hE.1 hP (hD _) hS 0 rfl rfl 16 (by decide) hw0 (fun _ h9 => h9) rfl (by decide +kernel) rfl rfl (Nat.le_of_ble_eq_true rfl) dX9_done_19 (fun H locs hP _ hS => ?_)
    have hP : va_P D vwCl (wg9 cI cZ d0 (q_su q1.2 16 0 0)) H := hP
    obtain ⟨T4, eT4⟩ : ∃ z : St, z = q_su q1.2 16 0 0 := ⟨_, rfl⟩
    rw [← eT4] at hP
    have ht := it_l ht eT4
    refine lv_aload_n hx hb dX9_done_22 rfl (lv_at hl 1 rfl) ?_
    refine va_get (D := D) (ci := 9) (v := .int (T4 20 0)) (C := RX9) (T := TX9) (N := 37) hx hb hts hi9 hown hE.1 hP 0 rfl rfl 20 (by decide) hw1 (fun _ h9 => h9) rfl dX9_done_23 ?_
    obtain rfl := Option.some.inj ht
    exact W.iret (v := T4 20 0) hx hb hr (fun t e1 hW => ⟨⟨_, (), rfl, ⟨rfl, trivial⟩, q_at e1 hP⟩, hS.F e1⟩) hS.2.2 dX9_done_26
  · have ht := it_n c3 ht
    refine lv_aload_n hx hb dX9_done_11 rfl (lv_at hl 1 rfl) ?_
    refine lv_iload_n hx hb dX9_done_12 rfl (lv_at hl 0 rfl) ?_
    obtain ⟨q5, hq5, ht⟩ := it_b ht
    have hFc := q_freeW (hD q1.2) hS hA
    refine q_mi (va_runV (As := [.int q1.1]) (rest := []) ⟨hx, hb, hml, hown, hts⟩ (kX9_back l D cI cZ cO d0 H.size q1.2 q1.1 q5 hq5) (cwV 1 hts gX9_done_X9_back rfl rfl rfl (by decide +kernel) ⟨Nat.le_of_ble_eq_true rfl, Nat.le_of_ble_eq_true rfl⟩) (q_mV (As := [.int q1.1]) hE hP (hD q1.2) (q0 := 0) (ci := 9) rfl rfl) rfl rfl hl.1 rfl (lv_room (Nat.le_of_ble_eq_true rfl)) dX9_done_13 ⟨Nat.le_of_ble_eq_true rfl, Nat.le_of_ble_eq_true rfl⟩) hS hFc (fun H locs b6 hP1 hk hS => ?_)
    have hP : va_P D vwCl (wg9 cI cZ d0 q5.2) H := hP1
    obtain rfl := Option.some.inj ht
    exact W.iret (v := q5.1) hx hb hr (fun t e1 hW => ⟨⟨_, (), rfl, ⟨rfl, trivial⟩, q_at e1 hP⟩, hS.F e1⟩) hS.2.2 dX9_done_16
abbrev rmX9_readBehind : Room := { frames := 1, cells := 0, slots := 0, locals := 21 }
set_option maxHeartbeats 4000000 in
set_option maxRecDepth 100000 in
theorem kX9_readBehind (l : Launch) (D : va_G) (cI cZ cO : ClassId) (d0 : Nat → Nat) (S0 : St) (p0 : Int32) (p1 : Int32) (p2 : Int32) (tg : Int32) (ht : xX9_readBehind S0 p0 p1 p2 = some tg) : Met l yX9_readBehind wsX9_readBehind rmX9_readBehind (q_PR D cI cZ cO [.ref (d0 0), .int p0, .int p1, .int p2] (wg9 cI cZ d0 S0)) (vp_Si (fun x => x = tg ∧ True)) 0 0 (fun _ => False) := by
  refine Met.ofW (cc := cX9_readBehind) (maxL := 5) (ret := (some .int)) (by decide) rfl ?_
  intro p e s m args below meth c s₁ B hml hv
  obtain ⟨rfl, hE, hP⟩ := hv
  have hx := B.exec
  have hb := B.bytes
  have hr := B.returns
  have hts := atoms_spec (ws := wsX9_readBehind) B.pre
  have hown : s.vm.findClass RX9 = some m.cls := findClass_of_methodNamed B.named
  have hlocks := B.notSynchronized
  have hi9 : ∀ w ∈ u_ws RX9 TX9 37, w ∈ wsX9_readBehind := by decide +kernel
  have hw0 := hts (.fieldLink RX9 16 "HailNamesModel" "lies" "[I") (by decide +kernel)
  have hw1 := hts (.fieldLink RX9 77 "HailNamesModel" "melting" "I") (by decide +kernel)
  have hw2 := hts (.fieldLink RX9 19 "HailNamesModel" "size" "[I") (by decide +kernel)
  have hl := lv_entry ([.ref (d0 0), .int p0, .int p1, .int p2]) (n := 5) (Nat.le_of_ble_eq_true rfl)
  rw [lg_entry_eq]
  generalize (lg_sl ([.ref (d0 0), .int p0, .int p1, .int p2]) ++ List.replicate (5 - (lg_sl ([.ref (d0 0), .int p0, .int p1, .int p2])).length) Slot.unset).toArray = ls at hl ⊢
  have hl : lv_has ls 5 [(0, .ref (d0 0)), (1, .int p0), (2, .int p1), (3, .int p2)] := hl
  have ht := (xX9_readBehind_s S0 p0 p1 p2).symm.trans ht
  refine lv_iload_n hx hb dX9_readBehind_0 rfl (lv_at hl 3 rfl) ?_
  refine lv_iload_n hx hb dX9_readBehind_1 rfl (lv_at hl 2 rfl) ?_
  refine lv_aload_n hx hb dX9_readBehind_2 rfl (lv_at hl 0 rfl) ?_
  refine va_get (D := D) (ci := 9) (v := .ref (d0 3)) (C := RX9) (T := TX9) (N := 37) hx hb hts hi9 hown hE.1 hP 0 rfl rfl 2 (by decide) hw0 (fun _ h9 => h9) rfl dX9_readBehind_3 ?_
  refine lv_iload_n hx hb dX9_readBehind_6 rfl (lv_at hl 1 rfl) ?_
  obtain ⟨g1, ht⟩ := it_g ht
  refine va_iald hx hb hE.1 hP 3 0 rfl rfl (q_in g1) dX9_readBehind_7 ?_
  refine q_ri (va_runS (As := [.int p1, .int (S0 2 p0.toNatClampNeg)]) (rest := [.int p2]) ⟨hx, hb, hml, hown, hts⟩ (kX9_apart l D cI cZ cO p1 (S0 2 p0.toNatClampNeg)) (va_cwS 2 hts gX9_readBehind_X9_apart rfl rfl rfl (by decide +kernel) ⟨Nat.le_of_ble_eq_true rfl, Nat.le_of_ble_eq_true rfl⟩) (q_rS hE q_nil) rfl rfl hl.1 rfl (lv_room (Nat.le_of_ble_eq_true rfl)) dX9_readBehind_8 ⟨Nat.le_of_ble_eq_true rfl, Nat.le_of_ble_eq_true rfl⟩) (fun b2 => ?_)
  refine lv_iadd hx hb dX9_readBehind_11 ?_
  refine lv_istore (lv' := [(4, .int (p2 + (xX9_apart p1 (S0 2 p0.toNatClampNeg)))), (0, .ref (d0 0)), (1, .int p0), (2, .int p1), (3, .int p2)]) hx hb dX9_readBehind_12 hl (by decide) rfl (fun ls hl => ?_)
  refine lv_iload hx hb dX9_readBehind_14 (lv_at hl 0 rfl) ?_
  refine lv_aload_n hx hb dX9_readBehind_16 rfl (lv_at hl 1 rfl) ?_
  refine va_get (D := D) (ci := 9) (v := .int (S0 9 0)) (C := RX9) (T := TX9) (N := 37) hx hb hts hi9 hown hE.1 hP 0 rfl rfl 9 (by decide) hw1 (fun _ h9 => h9) rfl dX9_readBehind_17 ?_
  refine lv_imul hx hb dX9_readBehind_20 ?_
  refine lv_aload_n hx hb dX9_readBehind_21 rfl (lv_at hl 1 rfl) ?_
  refine va_get (D := D) (ci := 9) (v := .ref (d0 4)) (C := RX9) (T := TX9) (N := 37) hx hb hts hi9 hown hE.1 hP 0 rfl rfl 3 (by decide) hw2 (fun _ h9 => h9) rfl dX9_readBehind_22 ?_
  refine lv_iload_n hx hb dX9_readBehind_25 rfl (lv_at hl 2 rfl) ?_
  refine va_iald hx hb hE.1 hP 4 0 rfl rfl (q_in g1) dX9_readBehind_26 ?_
  refine lv_icmp_ge (tgt := 37) hx hb dX9_readBehind_27 (by decide) (fun c3 => ?_) (fun c3 => ?_)
  · have ht := it_p c3 ht
    refine lv_sipush (v := 1000) hx hb dX9_readBehind_37 (by decide +kernel) ?_
    have ht := Option.some.inj ht
    exact W.iret (v := 1000) hx hb hr (fun t e1 hW => ⟨_, rfl, ⟨ht, trivial⟩, e1⟩) (fun q h => absurd h List.not_mem_nil) dX9_readBehind_40
  · have ht := it_n c3 ht
    refine lv_iload hx hb dX9_readBehind_30 (lv_at hl 0 rfl) ?_
    refine lv_iconst (v := 1) hx hb dX9_readBehind_32 (by decide) ?_
    refine lv_iadd hx hb dX9_readBehind_33 ?_
    refine lv_goto (tgt := 40) hx hb dX9_readBehind_34 (by decide) ?_
    have ht := Option.some.inj ht
    exact W.iret (v := (p2 + (xX9_apart p1 (S0 2 p0.toNatClampNeg))) + 1) hx hb hr (fun t e1 hW => ⟨_, rfl, ⟨ht, trivial⟩, e1⟩) (fun q h => absurd h List.not_mem_nil) dX9_readBehind_40
abbrev rmX9_earliest : Room := { frames := 2, cells := 0, slots := 0, locals := 45 }
set_option maxHeartbeats 4000000 in
set_option maxRecDepth 100000 in
theorem kX9_earliest (l : Launch) (D : va_G) (cI cZ cO : ClassId) (d0 : Nat → Nat) (S0 : St) (p0 : Int32) (p1 : Int32) (p2 : Int32) (tg : Int32) (ht : xX9_earliest S0 p0 p1 p2 = some tg) : Met l yX9_earliest wsX9_earliest rmX9_earliest (q_PR D cI cZ cO [.ref (d0 0), .int p0, .int p1, .int p2] (wg9 cI cZ d0 S0)) (vp_Si (fun x => x = tg ∧ True)) 0 0 (fun _ => False) := by
  refine Met.ofW (cc := cX9_earliest) (maxL := 8) (ret := (some .int)) (by decide) rfl ?_
  intro p e s m args below meth c s₁ B hml hv
  obtain ⟨rfl, hE, hP⟩ := hv
  have hx := B.exec
  have hb := B.bytes
  have hr := B.returns
  have hts := atoms_spec (ws := wsX9_earliest) B.pre
  have hown : s.vm.findClass RX9 = some m.cls := findClass_of_methodNamed B.named
  have hlocks := B.notSynchronized
  have hi9 : ∀ w ∈ u_ws RX9 TX9 37, w ∈ wsX9_earliest := by decide +kernel
  have hw0 := hts (.fieldLink RX9 28 "HailNamesModel" "stun" "[I") (by decide +kernel)
  have hw1 := hts (.fieldLink RX9 34 "HailNamesModel" "did" "[I") (by decide +kernel)
  have hw2 := hts (.fieldLink RX9 61 "HailNamesModel" "free" "[I") (by decide +kernel)
  have hw3 := hts (.fieldLink RX9 25 "HailNamesModel" "stands" "[I") (by decide +kernel)
  have hw4 := hts (.fieldLink RX9 16 "HailNamesModel" "lies" "[I") (by decide +kernel)
  have hl := lv_entry ([.ref (d0 0), .int p0, .int p1, .int p2]) (n := 8) (Nat.le_of_ble_eq_true rfl)
  rw [lg_entry_eq]
  generalize (lg_sl ([.ref (d0 0), .int p0, .int p1, .int p2]) ++ List.replicate (8 - (lg_sl ([.ref (d0 0), .int p0, .int p1, .int p2])).length) Slot.unset).toArray = ls at hl ⊢
  have hl : lv_has ls 8 [(0, .ref (d0 0)), (1, .int p0), (2, .int p1), (3, .int p2)] := hl
  have ht := (xX9_earliest_s S0 p0 p1 p2).symm.trans ht
  obtain ⟨Q, hQ⟩ : ∃ Q, Q = MQ below (vp_Si (fun x => x = tg ∧ True)) ([.ref (d0 0), .int p0, .int p1, .int p2] : List Value).toArray s 0 0 (fun _ => False) := ⟨_, rfl⟩
  rw [← hQ]
  have L68 : ∀ (n : Nat) (x4 : Int32) (x5 : Int32) (x6 : Int32) (ls : Array Slot) (_ : lv_has ls 8 [(0, .ref (d0 0)), (2, .int p1), (4, .int x4), (5, .int x5), (6, .int x6)]) (_ : xX9_earliest_h68 S0 p0 p1 p2 n x4 x5 x6 = some tg), W p l e (headSpec wsX9_earliest rmX9_earliest).room s m ([.ref (d0 0), .int p0, .int p1, .int p2] : List Value).toArray below meth c s.heap [] 0 0 Q (F0 m 68 ls []) := by
    intro n
    induction n with
    | zero =>
      intro x4 x5 x6 ls hl ht
      exact it_z ht
    | succ n68 ih68 =>
      intro x4 x5 x6 ls hl ht
      have ht := (xX9_earliest_h68_s S0 p0 p1 p2 n68 x4 x5 x6).symm.trans ht
      have J104 : ∀ (x4 : Int32) (x5 : Int32) (x6 : Int32) (z0 : Int32) (ls : Array Slot) (_ : lv_has ls 8 [(0, .ref (d0 0)), (2, .int p1), (4, .int x4), (5, .int x5), (6, .int x6)]) (_ : xX9_earliest_h104 S0 p0 p1 p2 (xX9_earliest_h68 S0 p0 p1 p2 n68) x4 x5 x6 z0 = some tg), W p l e (headSpec wsX9_earliest rmX9_earliest).room s m ([.ref (d0 0), .int p0, .int p1, .int p2] : List Value).toArray below meth c s.heap [] 0 0 Q (F0 m 104 ls [.int z0]) := by
        intro x4 x5 x6 z0 ls hl ht
        have ht := (xX9_earliest_h104_s S0 p0 p1 p2 (xX9_earliest_h68 S0 p0 p1 p2 n68) x4 x5 x6 z0).symm.trans ht
        refine lv_istore (lv' := [(7, .int z0), (0, .ref (d0 0)), (2, .int p1), (4, .int x4), (5, .int x5), (6, .int x6)]) hx hb dX9_earliest_104 hl (by decide) rfl (fun ls hl => ?_)
        refine lv_iload hx hb dX9_earliest_106 (lv_at hl 0 rfl) ?_
        refine lv_sipush (v := 1000) hx hb dX9_earliest_108 (by decide +kernel) ?_
        refine lv_icmp_ge (tgt := 136) hx hb dX9_earliest_111 (by decide) (fun c11 => ?_) (fun c11 => ?_)
        · have ht := it_p c11 ht
          refine lv_iload hx hb dX9_earliest_136 (lv_at hl 4 rfl) ?_
          refine lv_istore (lv' := [(5, .int x5), (7, .int z0), (0, .ref (d0 0)), (2, .int p1), (4, .int x4), (6, .int x6)]) hx hb dX9_earliest_138 hl (by decide) rfl (fun ls hl => ?_)
          refine lv_iinc (v := x6 + 1) (lv' := [(6, .int (x6 + 1)), (5, .int x5), (7, .int z0), (0, .ref (d0 0)), (2, .int p1), (4, .int x4)]) hx hb dX9_earliest_140 hl (k := 5) rfl rfl (by decide) rfl (fun ls hl => ?_)
          refine lv_goto (tgt := 68) hx hb dX9_earliest_143 (by decide) ?_
          exact ih68 x4 x5 (x6 + 1) ls (lv_sub hl [3, 4, 5, 1, 0] rfl) ht
        · have ht := it_n c11 ht
          refine lv_iload hx hb dX9_earliest_114 (lv_at hl 4 rfl) ?_
          refine lv_aload_n hx hb dX9_earliest_116 rfl (lv_at hl 1 rfl) ?_
          refine lv_iload_n hx hb dX9_earliest_117 rfl (lv_at hl 2 rfl) ?_
          refine lv_aload_n hx hb dX9_earliest_118 rfl (lv_at hl 1 rfl) ?_
          refine va_get (D := D) (ci := 9) (v := .ref (d0 3)) (C := RX9) (T := TX9) (N := 37) hx hb hts hi9 hown hE.1 hP 0 rfl rfl 2 (by decide) hw4 (fun _ h9 => h9) rfl dX9_earliest_119 ?_
          refine lv_iload hx hb dX9_earliest_122 (lv_at hl 5 rfl) ?_
          obtain ⟨g12, ht⟩ := it_g ht
          refine va_iald hx hb hE.1 hP 3 0 rfl rfl (q_in g12) dX9_earliest_124 ?_
          refine lv_iload hx hb dX9_earliest_125 (lv_at hl 0 rfl) ?_
          obtain ⟨q13, hq13, ht⟩ := it_b ht
          refine q_ri (va_runV (As := [.int p1, .int (S0 2 x6.toNatClampNeg), .int z0]) (rest := [.int x5]) ⟨hx, hb, hml, hown, hts⟩ (kX9_readBehind l D cI cZ cO d0 S0 p1 (S0 2 x6.toNatClampNeg) z0 q13 hq13) (cwV 3 hts gX9_earliest_X9_readBehind rfl rfl rfl (by decide +kernel) ⟨Nat.le_of_ble_eq_true rfl, Nat.le_of_ble_eq_true rfl⟩) (q_rV (As := [.int p1, .int (S0 2 x6.toNatClampNeg), .int z0]) hE hP (q0 := 0) (ci := 9) rfl rfl) rfl rfl hl.1 rfl (lv_room (Nat.le_of_ble_eq_true rfl)) dX9_earliest_127 ⟨Nat.le_of_ble_eq_true rfl, Nat.le_of_ble_eq_true rfl⟩) (fun b14 => ?_)
          refine q_ri (va_runS (As := [.int x5, .int q13]) (rest := []) ⟨hx, hb, hml, hown, hts⟩ (kX9_less l D cI cZ cO x5 q13) (va_cwS 2 hts gX9_earliest_X9_less rfl rfl rfl (by decide +kernel) ⟨Nat.le_of_ble_eq_true rfl, Nat.le_of_ble_eq_true rfl⟩) (q_rS hE q_nil) rfl rfl hl.1 rfl (lv_room (Nat.le_of_ble_eq_true rfl)) dX9_earliest_130 ⟨Nat.le_of_ble_eq_true rfl, Nat.le_of_ble_eq_true rfl⟩) (fun b15 => ?_)
          refine lv_goto (tgt := 138) hx hb dX9_earliest_133 (by decide) ?_
          refine lv_istore (lv' := [(5, .int (xX9_less x5 q13)), (7, .int z0), (0, .ref (d0 0)), (2, .int p1), (4, .int x4), (6, .int x6)]) hx hb dX9_earliest_138 hl (by decide) rfl (fun ls hl => ?_)
          refine lv_iinc (v := x6 + 1) (lv' := [(6, .int (x6 + 1)), (5, .int (xX9_less x5 q13)), (7, .int z0), (0, .ref (d0 0)), (2, .int p1), (4, .int x4)]) hx hb dX9_earliest_140 hl (k := 5) rfl rfl (by decide) rfl (fun ls hl => ?_)
          refine lv_goto (tgt := 68) hx hb dX9_earliest_143 (by decide) ?_
          exact ih68 x4 (xX9_less x5 q13) (x6 + 1) ls (lv_sub hl [3, 4, 5, 1, 0] rfl) ht
      refine lv_iload hx hb dX9_earliest_68 (lv_at hl 4 rfl) ?_
      refine lv_bipush (v := 8) hx hb dX9_earliest_70 (by decide) ?_
      refine lv_icmp_ge (tgt := 146) hx hb dX9_earliest_72 (by decide) (fun c4 => ?_) (fun c4 => ?_)
      · have ht := it_p c4 ht
        refine lv_iload hx hb dX9_earliest_146 (lv_at hl 3 rfl) ?_
        subst hQ
        have ht := Option.some.inj ht
        exact W.iret (v := x5) hx hb hr (fun t e1 hW => ⟨_, rfl, ⟨ht, trivial⟩, e1⟩) (fun q h => absurd h List.not_mem_nil) dX9_earliest_148
      · have ht := it_n c4 ht
        refine lv_iload hx hb dX9_earliest_75 (lv_at hl 2 rfl) ?_
        refine lv_iload hx hb dX9_earliest_77 (lv_at hl 4 rfl) ?_
        refine q_ri (va_runS (As := [.int x4, .int x6]) (rest := []) ⟨hx, hb, hml, hown, hts⟩ (kX9_has l D cI cZ cO x4 x6) (va_cwS 2 hts gX9_earliest_X9_has rfl rfl rfl (by decide +kernel) ⟨Nat.le_of_ble_eq_true rfl, Nat.le_of_ble_eq_true rfl⟩) (q_rS hE q_nil) rfl rfl hl.1 rfl (lv_room (Nat.le_of_ble_eq_true rfl)) dX9_earliest_79 ⟨Nat.le_of_ble_eq_true rfl, Nat.le_of_ble_eq_true rfl⟩) (fun b5 => ?_)
        refine lv_if_eq (tgt := 101) hx hb dX9_earliest_82 (by decide) (fun c6 => ?_) (fun c6 => ?_)
        · have ht := it_p c6 ht
          refine lv_sipush (v := 1000) hx hb dX9_earliest_101 (by decide +kernel) ?_
          exact J104 x4 x5 x6 1000 ls (lv_sub hl [0, 1, 2, 3, 4] rfl) ht
        · have ht := it_n c6 ht
          refine lv_aload_n hx hb dX9_earliest_85 rfl (lv_at hl 0 rfl) ?_
          refine va_get (D := D) (ci := 9) (v := .ref (d0 31)) (C := RX9) (T := TX9) (N := 37) hx hb hts hi9 hown hE.1 hP 0 rfl rfl 30 (by decide) hw2 (fun _ h9 => h9) rfl dX9_earliest_86 ?_
          refine lv_bipush (v := 8) hx hb dX9_earliest_89 (by decide) ?_
          refine lv_iload hx hb dX9_earliest_91 (lv_at hl 2 rfl) ?_
          refine lv_imul hx hb dX9_earliest_93 ?_
          refine lv_iload hx hb dX9_earliest_94 (lv_at hl 4 rfl) ?_
          refine lv_iadd hx hb dX9_earliest_96 ?_
          obtain ⟨g7, ht⟩ := it_g ht
          refine va_iald hx hb hE.1 hP 18 0 rfl rfl (q_in g7) dX9_earliest_97 ?_
          refine lv_goto (tgt := 104) hx hb dX9_earliest_98 (by decide) ?_
          exact J104 x4 x5 x6 (S0 30 ((8 * x4) + x6).toNatClampNeg) ls (lv_sub hl [0, 1, 2, 3, 4] rfl) ht
  have J44 : ∀ (z0 : Int32) (ls : Array Slot) (_ : lv_has ls 8 [(0, .ref (d0 0)), (2, .int p1), (3, .int p2)]) (_ : xX9_earliest_h44 S0 p0 p1 p2 z0 = some tg), W p l e (headSpec wsX9_earliest rmX9_earliest).room s m ([.ref (d0 0), .int p0, .int p1, .int p2] : List Value).toArray below meth c s.heap [] 0 0 Q (F0 m 44 ls [.int z0]) := by
    intro z0 ls hl ht
    have ht := (xX9_earliest_h44_s S0 p0 p1 p2 z0).symm.trans ht
    refine lv_istore (lv' := [(5, .int z0), (0, .ref (d0 0)), (2, .int p1), (3, .int p2)]) hx hb dX9_earliest_44 hl (by decide) rfl (fun ls hl => ?_)
    refine lv_aload_n hx hb dX9_earliest_46 rfl (lv_at hl 1 rfl) ?_
    refine lv_iload_n hx hb dX9_earliest_47 rfl (lv_at hl 2 rfl) ?_
    refine lv_aload_n hx hb dX9_earliest_48 rfl (lv_at hl 1 rfl) ?_
    refine va_get (D := D) (ci := 9) (v := .ref (d0 6)) (C := RX9) (T := TX9) (N := 37) hx hb hts hi9 hown hE.1 hP 0 rfl rfl 5 (by decide) hw3 (fun _ h9 => h9) rfl dX9_earliest_49 ?_
    refine lv_iload_n hx hb dX9_earliest_52 rfl (lv_at hl 3 rfl) ?_
    obtain ⟨g8, ht⟩ := it_g ht
    refine va_iald hx hb hE.1 hP 6 0 rfl rfl (q_in g8) dX9_earliest_53 ?_
    refine lv_iload hx hb dX9_earliest_54 (lv_at hl 0 rfl) ?_
    obtain ⟨q9, hq9, ht⟩ := it_b ht
    refine q_ri (va_runV (As := [.int p1, .int (S0 5 p2.toNatClampNeg), .int z0]) (rest := []) ⟨hx, hb, hml, hown, hts⟩ (kX9_readBehind l D cI cZ cO d0 S0 p1 (S0 5 p2.toNatClampNeg) z0 q9 hq9) (cwV 3 hts gX9_earliest_X9_readBehind rfl rfl rfl (by decide +kernel) ⟨Nat.le_of_ble_eq_true rfl, Nat.le_of_ble_eq_true rfl⟩) (q_rV (As := [.int p1, .int (S0 5 p2.toNatClampNeg), .int z0]) hE hP (q0 := 0) (ci := 9) rfl rfl) rfl rfl hl.1 rfl (lv_room (Nat.le_of_ble_eq_true rfl)) dX9_earliest_56 ⟨Nat.le_of_ble_eq_true rfl, Nat.le_of_ble_eq_true rfl⟩) (fun b10 => ?_)
    subst hQ
    have ht := Option.some.inj ht
    exact W.iret (v := q9) hx hb hr (fun t e1 hW => ⟨_, rfl, ⟨ht, trivial⟩, e1⟩) (fun q h => absurd h List.not_mem_nil) dX9_earliest_59
  refine lv_iload_n hx hb dX9_earliest_0 rfl (lv_at hl 1 rfl) ?_
  refine lv_iconst (v := 1) hx hb dX9_earliest_1 (by decide) ?_
  refine lv_iload_n hx hb dX9_earliest_2 rfl (lv_at hl 2 rfl) ?_
  refine q_ishl hx hb dX9_earliest_3 ?_
  refine lv_iconst (v := (-1)) hx hb dX9_earliest_4 (by decide) ?_
  refine lv_ixor hx hb dX9_earliest_5 ?_
  refine lv_iand hx hb dX9_earliest_6 ?_
  refine lv_istore (lv' := [(4, .int (p0 &&& ((q_shl 1 p1) ^^^ (-1)))), (0, .ref (d0 0)), (1, .int p0), (2, .int p1), (3, .int p2)]) hx hb dX9_earliest_7 hl (by decide) rfl (fun ls hl => ?_)
  refine lv_iload hx hb dX9_earliest_9 (lv_at hl 0 rfl) ?_
  refine lv_if_ne (tgt := 60) hx hb dX9_earliest_11 (by decide) (fun c1 => ?_) (fun c1 => ?_)
  · have ht := it_n c1 ht
    refine lv_sipush (v := 1000) hx hb dX9_earliest_60 (by decide +kernel) ?_
    refine lv_istore (lv' := [(5, .int 1000), (4, .int (p0 &&& ((q_shl 1 p1) ^^^ (-1)))), (0, .ref (d0 0)), (1, .int p0), (2, .int p1), (3, .int p2)]) hx hb dX9_earliest_63 hl (by decide) rfl (fun ls hl => ?_)
    refine lv_iconst (v := 0) hx hb dX9_earliest_65 (by decide) ?_
    refine lv_istore (lv' := [(6, .int 0), (5, .int 1000), (4, .int (p0 &&& ((q_shl 1 p1) ^^^ (-1)))), (0, .ref (d0 0)), (1, .int p0), (2, .int p1), (3, .int p2)]) hx hb dX9_earliest_66 hl (by decide) rfl (fun ls hl => ?_)
    exact L68 5000 (p0 &&& ((q_shl 1 p1) ^^^ (-1))) 1000 0 ls (lv_sub hl [3, 5, 2, 1, 0] rfl) ht
  · have ht := it_p c1 ht
    refine lv_aload_n hx hb dX9_earliest_14 rfl (lv_at hl 1 rfl) ?_
    refine va_get (D := D) (ci := 9) (v := .ref (d0 7)) (C := RX9) (T := TX9) (N := 37) hx hb hts hi9 hown hE.1 hP 0 rfl rfl 6 (by decide) hw0 (fun _ h9 => h9) rfl dX9_earliest_15 ?_
    refine lv_iload_n hx hb dX9_earliest_18 rfl (lv_at hl 4 rfl) ?_
    obtain ⟨g2, ht⟩ := it_g ht
    refine va_iald hx hb hE.1 hP 7 0 rfl rfl (q_in g2) dX9_earliest_19 ?_
    refine lv_aload_n hx hb dX9_earliest_20 rfl (lv_at hl 1 rfl) ?_
    refine va_get (D := D) (ci := 9) (v := .ref (d0 9)) (C := RX9) (T := TX9) (N := 37) hx hb hts hi9 hown hE.1 hP 0 rfl rfl 8 (by decide) hw1 (fun _ h9 => h9) rfl dX9_earliest_21 ?_
    refine lv_iload_n hx hb dX9_earliest_24 rfl (lv_at hl 4 rfl) ?_
    refine va_iald hx hb hE.1 hP 9 0 rfl rfl (q_in g2) dX9_earliest_25 ?_
    refine lv_icmp_le (tgt := 38) hx hb dX9_earliest_26 (by decide) (fun c3 => ?_) (fun c3 => ?_)
    · have ht := it_p c3 ht
      refine lv_aload_n hx hb dX9_earliest_38 rfl (lv_at hl 1 rfl) ?_
      refine va_get (D := D) (ci := 9) (v := .ref (d0 9)) (C := RX9) (T := TX9) (N := 37) hx hb hts hi9 hown hE.1 hP 0 rfl rfl 8 (by decide) hw1 (fun _ h9 => h9) rfl dX9_earliest_39 ?_
      refine lv_iload_n hx hb dX9_earliest_42 rfl (lv_at hl 4 rfl) ?_
      refine va_iald hx hb hE.1 hP 9 0 rfl rfl (q_in g2) dX9_earliest_43 ?_
      exact J44 (S0 8 p2.toNatClampNeg) ls (lv_sub hl [1, 3, 4] rfl) ht
    · have ht := it_n c3 ht
      refine lv_aload_n hx hb dX9_earliest_29 rfl (lv_at hl 1 rfl) ?_
      refine va_get (D := D) (ci := 9) (v := .ref (d0 7)) (C := RX9) (T := TX9) (N := 37) hx hb hts hi9 hown hE.1 hP 0 rfl rfl 6 (by decide) hw0 (fun _ h9 => h9) rfl dX9_earliest_30 ?_
      refine lv_iload_n hx hb dX9_earliest_33 rfl (lv_at hl 4 rfl) ?_
      refine va_iald hx hb hE.1 hP 7 0 rfl rfl (q_in g2) dX9_earliest_34 ?_
      refine lv_goto (tgt := 44) hx hb dX9_earliest_35 (by decide) ?_
      exact J44 (S0 6 p2.toNatClampNeg) ls (lv_sub hl [1, 3, 4] rfl) ht
abbrev rmX9_canBe : Room := { frames := 3, cells := 0, slots := 0, locals := 72 }
set_option maxHeartbeats 4000000 in
set_option maxRecDepth 100000 in
theorem kX9_canBe (l : Launch) (D : va_G) (cI cZ cO : ClassId) (d0 : Nat → Nat) (sz : Nat) (S0 : St) (p0 : Int32) (p1 : Int32) (tg : Int32 × St) (ht : xX9_canBe p0 p1 S0 = some tg) : Met l yX9_canBe wsX9_canBe rmX9_canBe (q_PM D cI cZ cO [.ref (d0 0), .int p0, .int p1] sz (wg9 cI cZ d0 S0)) (va_Qi (fun x (_ : Unit) => x = tg.1 ∧ narrow .boolean (.int x) = .int x) (fun _ t => va_P D vwCl (wg9 cI cZ d0 tg.2) t.heap) (va_A (wg9 cI cZ d0 S0) sz)) 0 0 (va_A (wg9 cI cZ d0 S0) sz) := by
  refine Met.ofW (cc := cX9_canBe) (maxL := 6) (ret := (some .boolean)) (by decide) rfl ?_
  intro p e s m args below meth c s₁ B hml hv
  obtain ⟨rfl, hsz, hE, hP, hD0⟩ := hv
  have hx := B.exec
  have hb := B.bytes
  have hr := B.returns
  have hts := atoms_spec (ws := wsX9_canBe) B.pre
  have hown : s.vm.findClass RX9 = some m.cls := findClass_of_methodNamed B.named
  have hlocks := B.notSynchronized
  have hi9 : ∀ w ∈ u_ws RX9 TX9 37, w ∈ wsX9_canBe := by decide +kernel
  have hw0 := hts (.fieldLink RX9 61 "HailNamesModel" "free" "[I") (by decide +kernel)
  subst hsz
  have hD1 := hD0.self (sz := s.heap.size)
  generalize hAe : va_A (wg9 cI cZ d0 S0) s.heap.size = A at hD1 ⊢
  have hA : ∀ q : Nat, s.heap.size ≤ q → A q := fun q h => by rw [← hAe]; exact Or.inr h
  have hS : va_S A s.heap s.heap [] := va_S.rf
  have hD : ∀ (S0 : St), va_D A (wg9 cI cZ d0 S0) := fun S0 => q_D hD1 rfl
  have hl := lv_entry ([.ref (d0 0), .int p0, .int p1]) (n := 6) (Nat.le_of_ble_eq_true rfl)
  rw [lg_entry_eq]
  generalize (lg_sl ([.ref (d0 0), .int p0, .int p1]) ++ List.replicate (6 - (lg_sl ([.ref (d0 0), .int p0, .int p1])).length) Slot.unset).toArray = ls at hl ⊢
  have hl : lv_has ls 6 [(0, .ref (d0 0)), (1, .int p0), (2, .int p1)] := hl
  have ht := (xX9_canBe_s p0 p1 S0).symm.trans ht
  obtain ⟨Q, hQ⟩ : ∃ Q, Q = MQ below (va_Qi (fun x (_ : Unit) => x = tg.1 ∧ narrow .boolean (.int x) = .int x) (fun _ t => va_P D vwCl (wg9 cI cZ d0 tg.2) t.heap) A) ([.ref (d0 0), .int p0, .int p1] : List Value).toArray s 0 0 A := ⟨_, rfl⟩
  rw [← hQ]
  have L5 : ∀ (n : Nat) (x3 : Int32) (x4 : Int32) (S0 : St) (H : Heap) (locs : List Loc) (_ : va_P D vwCl (wg9 cI cZ d0 S0) H) (_ : va_S A s.heap H locs) (ls : Array Slot) (_ : lv_has ls 6 [(0, .ref (d0 0)), (1, .int p0), (2, .int p1), (3, .int x3), (4, .int x4)]) (_ : xX9_canBe_h5 p0 p1 n x3 x4 S0 = some tg), W p l e (headSpec wsX9_canBe rmX9_canBe).room s m ([.ref (d0 0), .int p0, .int p1] : List Value).toArray below meth c H locs 0 0 Q (F0 m 5 ls []) := by
    intro n
    induction n with
    | zero =>
      intro x3 x4 S0 H locs hP hS ls hl ht
      exact it_z ht
    | succ n5 ih5 =>
      intro x3 x4 S0 H locs hP hS ls hl ht
      have ht := (xX9_canBe_h5_s p0 p1 n5 x3 x4 S0).symm.trans ht
      have J37 : ∀ (x3 : Int32) (x4 : Int32) (z0 : Int32) (S0 : St) (H : Heap) (locs : List Loc) (_ : va_P D vwCl (wg9 cI cZ d0 S0) H) (_ : va_S A s.heap H locs) (ls : Array Slot) (_ : lv_has ls 6 [(0, .ref (d0 0)), (1, .int p0), (2, .int p1), (3, .int x3), (4, .int x4)]) (_ : xX9_canBe_h37 p0 p1 (xX9_canBe_h5 p0 p1 n5) x3 x4 z0 S0 = some tg), W p l e (headSpec wsX9_canBe rmX9_canBe).room s m ([.ref (d0 0), .int p0, .int p1] : List Value).toArray below meth c H locs 0 0 Q (F0 m 37 ls [.int z0]) := by
        intro x3 x4 z0 S0 H locs hP hS ls hl ht
        have ht := (xX9_canBe_h37_s p0 p1 (xX9_canBe_h5 p0 p1 n5) x3 x4 z0 S0).symm.trans ht
        have J69 : ∀ (x3 : Int32) (x4 : Int32) (z1 : Int32) (z2 : Int32) (S0 : St) (H : Heap) (locs : List Loc) (_ : va_P D vwCl (wg9 cI cZ d0 S0) H) (_ : va_S A s.heap H locs) (ls : Array Slot) (_ : lv_has ls 6 [(0, .ref (d0 0)), (1, .int p0), (2, .int p1), (3, .int x3), (4, .int x4)]) (_ : xX9_canBe_h69 p0 p1 (xX9_canBe_h5 p0 p1 n5) x3 x4 z1 z2 S0 = some tg), W p l e (headSpec wsX9_canBe rmX9_canBe).room s m ([.ref (d0 0), .int p0, .int p1] : List Value).toArray below meth c H locs 0 0 Q (F0 m 69 ls [.int z2, .int z1, .ref (d0 31)]) := by
          intro x3 x4 z1 z2 S0 H locs hP hS ls hl ht
          have ht := (xX9_canBe_h69_s p0 p1 (xX9_canBe_h5 p0 p1 n5) x3 x4 z1 z2 S0).symm.trans ht
          obtain ⟨g11, ht⟩ := it_g ht
          refine va_iast hx hb hE.1 hP (hD _) hS 18 0 rfl rfl (q_in g11) dX9_canBe_69 (fun H locs hP _ hS => ?_)
          have hP : va_P D vwCl (wg9 cI cZ d0 (q_su S0 30 z1.toNatClampNeg z2)) H := hP
          obtain ⟨T12, eT12⟩ : ∃ z : St, z = q_su S0 30 z1.toNatClampNeg z2 := ⟨_, rfl⟩
          rw [← eT12] at hP
          have ht := it_l ht eT12
          refine lv_iload_n hx hb dX9_canBe_70 rfl (lv_at hl 3 rfl) ?_
          refine lv_if_ne (tgt := 92) hx hb dX9_canBe_71 (by decide) (fun c13 => ?_) (fun c13 => ?_)
          · have ht := it_n c13 ht
            refine lv_iconst (v := 1) hx hb dX9_canBe_92 (by decide) ?_
            refine lv_goto (tgt := 97) hx hb dX9_canBe_93 (by decide) ?_
            refine lv_istore_n (lv' := [(3, .int 1), (0, .ref (d0 0)), (1, .int p0), (2, .int p1), (4, .int x4)]) hx hb dX9_canBe_97 rfl hl (by decide) rfl (fun ls hl => ?_)
            refine lv_iinc (v := x4 + 1) (lv' := [(4, .int (x4 + 1)), (3, .int 1), (0, .ref (d0 0)), (1, .int p0), (2, .int p1)]) hx hb dX9_canBe_98 hl (k := 4) rfl rfl (by decide) rfl (fun ls hl => ?_)
            refine lv_goto (tgt := 5) hx hb dX9_canBe_101 (by decide) ?_
            exact ih5 1 (x4 + 1) T12 _ _ hP hS ls (lv_sub hl [2, 3, 4, 1, 0] rfl) ht
          · have ht := it_p c13 ht
            refine lv_aload_n hx hb dX9_canBe_74 rfl (lv_at hl 0 rfl) ?_
            refine va_get (D := D) (ci := 9) (v := .ref (d0 31)) (C := RX9) (T := TX9) (N := 37) hx hb hts hi9 hown hE.1 hP 0 rfl rfl 30 (by decide) hw0 (fun _ h9 => h9) rfl dX9_canBe_75 ?_
            refine lv_bipush (v := 8) hx hb dX9_canBe_78 (by decide) ?_
            refine lv_iload_n hx hb dX9_canBe_80 rfl (lv_at hl 1 rfl) ?_
            refine lv_imul hx hb dX9_canBe_81 ?_
            refine lv_iload hx hb dX9_canBe_82 (lv_at hl 4 rfl) ?_
            refine lv_iadd hx hb dX9_canBe_84 ?_
            obtain ⟨g14, ht⟩ := it_g ht
            refine va_iald hx hb hE.1 hP 18 0 rfl rfl (q_in g14) dX9_canBe_85 ?_
            refine lv_sipush (v := 1000) hx hb dX9_canBe_86 (by decide +kernel) ?_
            refine lv_icmp_ge (tgt := 96) hx hb dX9_canBe_89 (by decide) (fun c15 => ?_) (fun c15 => ?_)
            · have ht := it_p c15 ht
              refine lv_iconst (v := 0) hx hb dX9_canBe_96 (by decide) ?_
              refine lv_istore_n (lv' := [(3, .int 0), (0, .ref (d0 0)), (1, .int p0), (2, .int p1), (4, .int x4)]) hx hb dX9_canBe_97 rfl hl (by decide) rfl (fun ls hl => ?_)
              refine lv_iinc (v := x4 + 1) (lv' := [(4, .int (x4 + 1)), (3, .int 0), (0, .ref (d0 0)), (1, .int p0), (2, .int p1)]) hx hb dX9_canBe_98 hl (k := 4) rfl rfl (by decide) rfl (fun ls hl => ?_)
              refine lv_goto (tgt := 5) hx hb dX9_canBe_101 (by decide) ?_
              exact ih5 0 (x4 + 1) T12 _ _ hP hS ls (lv_sub hl [2, 3, 4, 1, 0] rfl) ht
            · have ht := it_n c15 ht
              refine lv_iconst (v := 1) hx hb dX9_canBe_92 (by decide) ?_
              refine lv_goto (tgt := 97) hx hb dX9_canBe_93 (by decide) ?_
              refine lv_istore_n (lv' := [(3, .int 1), (0, .ref (d0 0)), (1, .int p0), (2, .int p1), (4, .int x4)]) hx hb dX9_canBe_97 rfl hl (by decide) rfl (fun ls hl => ?_)
              refine lv_iinc (v := x4 + 1) (lv' := [(4, .int (x4 + 1)), (3, .int 1), (0, .ref (d0 0)), (1, .int p0), (2, .int p1)]) hx hb dX9_canBe_98 hl (k := 4) rfl rfl (by decide) rfl (fun ls hl => ?_)
              refine lv_goto (tgt := 5) hx hb dX9_canBe_101 (by decide) ?_
              exact ih5 1 (x4 + 1) T12 _ _ hP hS ls (lv_sub hl [2, 3, 4, 1, 0] rfl) ht
        refine lv_istore (lv' := [(5, .int z0), (0, .ref (d0 0)), (1, .int p0), (2, .int p1), (3, .int x3), (4, .int x4)]) hx hb dX9_canBe_37 hl (by decide) rfl (fun ls hl => ?_)
        refine lv_aload_n hx hb dX9_canBe_39 rfl (lv_at hl 1 rfl) ?_
        refine va_get (D := D) (ci := 9) (v := .ref (d0 31)) (C := RX9) (T := TX9) (N := 37) hx hb hts hi9 hown hE.1 hP 0 rfl rfl 30 (by decide) hw0 (fun _ h9 => h9) rfl dX9_canBe_40 ?_
        refine lv_bipush (v := 8) hx hb dX9_canBe_43 (by decide) ?_
        refine lv_iload_n hx hb dX9_canBe_45 rfl (lv_at hl 2 rfl) ?_
        refine lv_imul hx hb dX9_canBe_46 ?_
        refine lv_iload hx hb dX9_canBe_47 (lv_at hl 5 rfl) ?_
        refine lv_iadd hx hb dX9_canBe_49 ?_
        refine lv_iload hx hb dX9_canBe_50 (lv_at hl 0 rfl) ?_
        refine lv_if_eq (tgt := 66) hx hb dX9_canBe_52 (by decide) (fun c8 => ?_) (fun c8 => ?_)
        · have ht := it_p c8 ht
          refine lv_sipush (v := 1000) hx hb dX9_canBe_66 (by decide +kernel) ?_
          exact J69 x3 x4 ((8 * p0) + x4) 1000 S0 _ _ hP hS ls (lv_sub hl [1, 2, 3, 4, 5] rfl) ht
        · have ht := it_n c8 ht
          refine lv_aload_n hx hb dX9_canBe_55 rfl (lv_at hl 1 rfl) ?_
          refine lv_iload_n hx hb dX9_canBe_56 rfl (lv_at hl 2 rfl) ?_
          refine lv_iload hx hb dX9_canBe_57 (lv_at hl 5 rfl) ?_
          refine lv_iload_n hx hb dX9_canBe_59 rfl (lv_at hl 3 rfl) ?_
          obtain ⟨q9, hq9, ht⟩ := it_b ht
          refine q_ri (va_runV (As := [.int p0, .int x4, .int p1]) (rest := [.int ((8 * p0) + x4), .ref (d0 31)]) ⟨hx, hb, hml, hown, hts⟩ (kX9_earliest l D cI cZ cO d0 S0 p0 x4 p1 q9 hq9) (cwV 3 hts gX9_canBe_X9_earliest rfl rfl rfl (by decide +kernel) ⟨Nat.le_of_ble_eq_true rfl, Nat.le_of_ble_eq_true rfl⟩) (q_rV (As := [.int p0, .int x4, .int p1]) hE hP (q0 := 0) (ci := 9) rfl rfl) rfl rfl hl.1 rfl (lv_room (Nat.le_of_ble_eq_true rfl)) dX9_canBe_60 ⟨Nat.le_of_ble_eq_true rfl, Nat.le_of_ble_eq_true rfl⟩) (fun b10 => ?_)
          refine lv_goto (tgt := 69) hx hb dX9_canBe_63 (by decide) ?_
          exact J69 x3 x4 ((8 * p0) + x4) q9 S0 _ _ hP hS ls (lv_sub hl [1, 2, 3, 4, 5] rfl) ht
      refine lv_iload hx hb dX9_canBe_5 (lv_at hl 4 rfl) ?_
      refine lv_bipush (v := 8) hx hb dX9_canBe_7 (by decide) ?_
      refine lv_icmp_ge (tgt := 104) hx hb dX9_canBe_9 (by decide) (fun c1 => ?_) (fun c1 => ?_)
      · have ht := it_p c1 ht
        refine lv_iload_n hx hb dX9_canBe_104 rfl (lv_at hl 3 rfl) ?_
        obtain ⟨g2, ht⟩ := it_g ht
        subst hQ
        obtain rfl := Option.some.inj ht
        exact W.zret (v := x3) (ty := .boolean) hx hb hr (q_zn g2) (fun t e1 hW => ⟨⟨_, (), rfl, ⟨rfl, (q_zn g2)⟩, q_at e1 hP⟩, hS.F e1⟩) hS.2.2 dX9_canBe_105
      · have ht := it_n c1 ht
        refine lv_iload_n hx hb dX9_canBe_12 rfl (lv_at hl 1 rfl) ?_
        refine lv_iload hx hb dX9_canBe_13 (lv_at hl 4 rfl) ?_
        refine q_ri (va_runS (As := [.int p0, .int x4]) (rest := []) ⟨hx, hb, hml, hown, hts⟩ (kX9_has l D cI cZ cO p0 x4) (va_cwS 2 hts gX9_canBe_X9_has rfl rfl rfl (by decide +kernel) ⟨Nat.le_of_ble_eq_true rfl, Nat.le_of_ble_eq_true rfl⟩) (q_rS hE q_nil) rfl rfl hl.1 rfl (lv_room (Nat.le_of_ble_eq_true rfl)) dX9_canBe_15 ⟨Nat.le_of_ble_eq_true rfl, Nat.le_of_ble_eq_true rfl⟩) (fun b3 => ?_)
        refine lv_if_eq (tgt := 36) hx hb dX9_canBe_18 (by decide) (fun c4 => ?_) (fun c4 => ?_)
        · have ht := it_p c4 ht
          refine lv_iconst (v := 0) hx hb dX9_canBe_36 (by decide) ?_
          exact J37 x3 x4 0 S0 _ _ hP hS ls (lv_sub hl [0, 1, 2, 3, 4] rfl) ht
        · have ht := it_n c4 ht
          refine lv_iload_n hx hb dX9_canBe_21 rfl (lv_at hl 1 rfl) ?_
          refine lv_aload_n hx hb dX9_canBe_22 rfl (lv_at hl 0 rfl) ?_
          obtain ⟨q5, hq5, ht⟩ := it_b ht
          refine q_ri (va_runV (As := []) (rest := [.int p0]) ⟨hx, hb, hml, hown, hts⟩ (kX9_lying l D cI cZ cO d0 S0 q5 hq5) (cwV 0 hts gX9_canBe_X9_lying rfl rfl rfl (by decide +kernel) ⟨Nat.le_of_ble_eq_true rfl, Nat.le_of_ble_eq_true rfl⟩) (q_rV (As := []) hE hP (q0 := 0) (ci := 9) rfl rfl) rfl rfl hl.1 rfl (lv_room (Nat.le_of_ble_eq_true rfl)) dX9_canBe_23 ⟨Nat.le_of_ble_eq_true rfl, Nat.le_of_ble_eq_true rfl⟩) (fun b6 => ?_)
          refine lv_iconst (v := (-1)) hx hb dX9_canBe_26 (by decide) ?_
          refine lv_ixor hx hb dX9_canBe_27 ?_
          refine lv_iand hx hb dX9_canBe_28 ?_
          refine lv_if_ne (tgt := 36) hx hb dX9_canBe_29 (by decide) (fun c7 => ?_) (fun c7 => ?_)
          · have ht := it_n c7 ht
            refine lv_iconst (v := 0) hx hb dX9_canBe_36 (by decide) ?_
            exact J37 x3 x4 0 S0 _ _ hP hS ls (lv_sub hl [0, 1, 2, 3, 4] rfl) ht
          · have ht := it_p c7 ht
            refine lv_iconst (v := 1) hx hb dX9_canBe_32 (by decide) ?_
            refine lv_goto (tgt := 37) hx hb dX9_canBe_33 (by decide) ?_
            exact J37 x3 x4 1 S0 _ _ hP hS ls (lv_sub hl [0, 1, 2, 3, 4] rfl) ht
  refine lv_iconst (v := 0) hx hb dX9_canBe_0 (by decide) ?_
  refine lv_istore_n (lv' := [(3, .int 0), (0, .ref (d0 0)), (1, .int p0), (2, .int p1)]) hx hb dX9_canBe_1 rfl hl (by decide) rfl (fun ls hl => ?_)
  refine lv_iconst (v := 0) hx hb dX9_canBe_2 (by decide) ?_
  refine lv_istore (lv' := [(4, .int 0), (3, .int 0), (0, .ref (d0 0)), (1, .int p0), (2, .int p1)]) hx hb dX9_canBe_3 hl (by decide) rfl (fun ls hl => ?_)
  exact L5 5000 0 0 S0 _ _ hP hS ls (lv_sub hl [2, 3, 4, 1, 0] rfl) ht
abbrev rmX9_figuresOf : Room := { frames := 1, cells := 0, slots := 0, locals := 21 }
set_option maxHeartbeats 4000000 in
set_option maxRecDepth 100000 in
theorem kX9_figuresOf (l : Launch) (D : va_G) (cI cZ cO : ClassId) (d0 : Nat → Nat) (S0 : St) (p0 : Int32) (tg : Int32) (ht : xX9_figuresOf S0 p0 = some tg) : Met l yX9_figuresOf wsX9_figuresOf rmX9_figuresOf (q_PR D cI cZ cO [.ref (d0 0), .int p0] (wg9 cI cZ d0 S0)) (vp_Si (fun x => x = tg ∧ True)) 0 0 (fun _ => False) := by
  refine Met.ofW (cc := cX9_figuresOf) (maxL := 4) (ret := (some .int)) (by decide) rfl ?_
  intro p e s m args below meth c s₁ B hml hv
  obtain ⟨rfl, hE, hP⟩ := hv
  have hx := B.exec
  have hb := B.bytes
  have hr := B.returns
  have hts := atoms_spec (ws := wsX9_figuresOf) B.pre
  have hown : s.vm.findClass RX9 = some m.cls := findClass_of_methodNamed B.named
  have hlocks := B.notSynchronized
  have hi9 : ∀ w ∈ u_ws RX9 TX9 37, w ∈ wsX9_figuresOf := by decide +kernel
  have hw0 := hts (.fieldLink RX9 22 "HailNamesModel" "figure" "[I") (by decide +kernel)
  have hl := lv_entry ([.ref (d0 0), .int p0]) (n := 4) (Nat.le_of_ble_eq_true rfl)
  rw [lg_entry_eq]
  generalize (lg_sl ([.ref (d0 0), .int p0]) ++ List.replicate (4 - (lg_sl ([.ref (d0 0), .int p0])).length) Slot.unset).toArray = ls at hl ⊢
  have hl : lv_has ls 4 [(0, .ref (d0 0)), (1, .int p0)] := hl
  have ht := (xX9_figuresOf_s S0 p0).symm.trans ht
  obtain ⟨Q, hQ⟩ : ∃ Q, Q = MQ below (vp_Si (fun x => x = tg ∧ True)) ([.ref (d0 0), .int p0] : List Value).toArray s 0 0 (fun _ => False) := ⟨_, rfl⟩
  rw [← hQ]
  have L4 : ∀ (n : Nat) (x2 : Int32) (x3 : Int32) (ls : Array Slot) (_ : lv_has ls 4 [(0, .ref (d0 0)), (1, .int p0), (2, .int x2), (3, .int x3)]) (_ : xX9_figuresOf_h4 S0 p0 n x2 x3 = some tg), W p l e (headSpec wsX9_figuresOf rmX9_figuresOf).room s m ([.ref (d0 0), .int p0] : List Value).toArray below meth c s.heap [] 0 0 Q (F0 m 4 ls []) := by
    intro n
    induction n with
    | zero =>
      intro x2 x3 ls hl ht
      exact it_z ht
    | succ n4 ih4 =>
      intro x2 x3 ls hl ht
      have ht := (xX9_figuresOf_h4_s S0 p0 n4 x2 x3).symm.trans ht
      refine lv_iload_n hx hb dX9_figuresOf_4 rfl (lv_at hl 3 rfl) ?_
      refine lv_bipush (v := 8) hx hb dX9_figuresOf_5 (by decide) ?_
      refine lv_icmp_ge (tgt := 37) hx hb dX9_figuresOf_7 (by decide) (fun c1 => ?_) (fun c1 => ?_)
      · have ht := it_p c1 ht
        refine lv_iload_n hx hb dX9_figuresOf_37 rfl (lv_at hl 2 rfl) ?_
        subst hQ
        have ht := Option.some.inj ht
        exact W.iret (v := x2) hx hb hr (fun t e1 hW => ⟨_, rfl, ⟨ht, trivial⟩, e1⟩) (fun q h => absurd h List.not_mem_nil) dX9_figuresOf_38
      · have ht := it_n c1 ht
        refine lv_iload_n hx hb dX9_figuresOf_10 rfl (lv_at hl 2 rfl) ?_
        refine lv_iload_n hx hb dX9_figuresOf_11 rfl (lv_at hl 1 rfl) ?_
        refine lv_iload_n hx hb dX9_figuresOf_12 rfl (lv_at hl 3 rfl) ?_
        refine q_ri (va_runS (As := [.int p0, .int x3]) (rest := [.int x2]) ⟨hx, hb, hml, hown, hts⟩ (kX9_has l D cI cZ cO p0 x3) (va_cwS 2 hts gX9_figuresOf_X9_has rfl rfl rfl (by decide +kernel) ⟨Nat.le_of_ble_eq_true rfl, Nat.le_of_ble_eq_true rfl⟩) (q_rS hE q_nil) rfl rfl hl.1 rfl (lv_room (Nat.le_of_ble_eq_true rfl)) dX9_figuresOf_13 ⟨Nat.le_of_ble_eq_true rfl, Nat.le_of_ble_eq_true rfl⟩) (fun b2 => ?_)
        refine lv_if_eq (tgt := 28) hx hb dX9_figuresOf_16 (by decide) (fun c3 => ?_) (fun c3 => ?_)
        · have ht := it_p c3 ht
          refine lv_iconst (v := 0) hx hb dX9_figuresOf_28 (by decide) ?_
          refine lv_iadd hx hb dX9_figuresOf_29 ?_
          refine lv_istore_n (lv' := [(2, .int (x2 + 0)), (0, .ref (d0 0)), (1, .int p0), (3, .int x3)]) hx hb dX9_figuresOf_30 rfl hl (by decide) rfl (fun ls hl => ?_)
          refine lv_iinc (v := x3 + 1) (lv' := [(3, .int (x3 + 1)), (2, .int (x2 + 0)), (0, .ref (d0 0)), (1, .int p0)]) hx hb dX9_figuresOf_31 hl (k := 3) rfl rfl (by decide) rfl (fun ls hl => ?_)
          refine lv_goto (tgt := 4) hx hb dX9_figuresOf_34 (by decide) ?_
          exact ih4 (x2 + 0) (x3 + 1) ls (lv_sub hl [2, 3, 1, 0] rfl) ht
        · have ht := it_n c3 ht
          refine lv_aload_n hx hb dX9_figuresOf_19 rfl (lv_at hl 0 rfl) ?_
          refine va_get (D := D) (ci := 9) (v := .ref (d0 5)) (C := RX9) (T := TX9) (N := 37) hx hb hts hi9 hown hE.1 hP 0 rfl rfl 4 (by decide) hw0 (fun _ h9 => h9) rfl dX9_figuresOf_20 ?_
          refine lv_iload_n hx hb dX9_figuresOf_23 rfl (lv_at hl 3 rfl) ?_
          obtain ⟨g4, ht⟩ := it_g ht
          refine va_iald hx hb hE.1 hP 5 0 rfl rfl (q_in g4) dX9_figuresOf_24 ?_
          refine lv_goto (tgt := 29) hx hb dX9_figuresOf_25 (by decide) ?_
          refine lv_iadd hx hb dX9_figuresOf_29 ?_
          refine lv_istore_n (lv' := [(2, .int (x2 + (S0 4 x3.toNatClampNeg))), (0, .ref (d0 0)), (1, .int p0), (3, .int x3)]) hx hb dX9_figuresOf_30 rfl hl (by decide) rfl (fun ls hl => ?_)
          refine lv_iinc (v := x3 + 1) (lv' := [(3, .int (x3 + 1)), (2, .int (x2 + (S0 4 x3.toNatClampNeg))), (0, .ref (d0 0)), (1, .int p0)]) hx hb dX9_figuresOf_31 hl (k := 3) rfl rfl (by decide) rfl (fun ls hl => ?_)
          refine lv_goto (tgt := 4) hx hb dX9_figuresOf_34 (by decide) ?_
          exact ih4 (x2 + (S0 4 x3.toNatClampNeg)) (x3 + 1) ls (lv_sub hl [2, 3, 1, 0] rfl) ht
  refine lv_iconst (v := 0) hx hb dX9_figuresOf_0 (by decide) ?_
  refine lv_istore_n (lv' := [(2, .int 0), (0, .ref (d0 0)), (1, .int p0)]) hx hb dX9_figuresOf_1 rfl hl (by decide) rfl (fun ls hl => ?_)
  refine lv_iconst (v := 0) hx hb dX9_figuresOf_2 (by decide) ?_
  refine lv_istore_n (lv' := [(3, .int 0), (2, .int 0), (0, .ref (d0 0)), (1, .int p0)]) hx hb dX9_figuresOf_3 rfl hl (by decide) rfl (fun ls hl => ?_)
  exact L4 5000 0 0 ls (lv_sub hl [2, 3, 1, 0] rfl) ht
abbrev rmX9_plan : Room := { frames := 4, cells := 0, slots := 0, locals := 97 }
set_option maxHeartbeats 4000000 in
set_option maxRecDepth 100000 in
theorem kX9_plan (l : Launch) (D : va_G) (cI cZ cO : ClassId) (d0 : Nat → Nat) (sz : Nat) (S0 : St) (p0 : Int32) (p1 : Int32) (tg : Int32 × St) (ht : xX9_plan p0 p1 S0 = some tg) : Met l yX9_plan wsX9_plan rmX9_plan (q_PM D cI cZ cO [.ref (d0 0), .int p0, .int p1] sz (wg9 cI cZ d0 S0)) (va_Qi (fun x (_ : Unit) => x = tg.1 ∧ True) (fun _ t => va_P D vwCl (wg9 cI cZ d0 tg.2) t.heap) (va_A (wg9 cI cZ d0 S0) sz)) 0 0 (va_A (wg9 cI cZ d0 S0) sz) := by
  refine Met.ofW (cc := cX9_plan) (maxL := 5) (ret := (some .int)) (by decide) rfl ?_
  intro p e s m args below meth c s₁ B hml hv
  obtain ⟨rfl, hsz, hE, hP, hD0⟩ := hv
  have hx := B.exec
  have hb := B.bytes
  have hr := B.returns
  have hts := atoms_spec (ws := wsX9_plan) B.pre
  have hown : s.vm.findClass RX9 = some m.cls := findClass_of_methodNamed B.named
  have hlocks := B.notSynchronized
  subst hsz
  have hD1 := hD0.self (sz := s.heap.size)
  generalize hAe : va_A (wg9 cI cZ d0 S0) s.heap.size = A at hD1 ⊢
  have hA : ∀ q : Nat, s.heap.size ≤ q → A q := fun q h => by rw [← hAe]; exact Or.inr h
  have hS : va_S A s.heap s.heap [] := va_S.rf
  have hD : ∀ (S0 : St), va_D A (wg9 cI cZ d0 S0) := fun S0 => q_D hD1 rfl
  have hl := lv_entry ([.ref (d0 0), .int p0, .int p1]) (n := 5) (Nat.le_of_ble_eq_true rfl)
  rw [lg_entry_eq]
  generalize (lg_sl ([.ref (d0 0), .int p0, .int p1]) ++ List.replicate (5 - (lg_sl ([.ref (d0 0), .int p0, .int p1])).length) Slot.unset).toArray = ls at hl ⊢
  have hl : lv_has ls 5 [(0, .ref (d0 0)), (1, .int p0), (2, .int p1)] := hl
  have ht := (xX9_plan_s p0 p1 S0).symm.trans ht
  obtain ⟨Q, hQ⟩ : ∃ Q, Q = MQ below (va_Qi (fun x (_ : Unit) => x = tg.1 ∧ True) (fun _ t => va_P D vwCl (wg9 cI cZ d0 tg.2) t.heap) A) ([.ref (d0 0), .int p0, .int p1] : List Value).toArray s 0 0 A := ⟨_, rfl⟩
  rw [← hQ]
  have L27 : ∀ (n : Nat) (x3 : Int32) (x4 : Int32) (S0 : St) (H : Heap) (locs : List Loc) (_ : va_P D vwCl (wg9 cI cZ d0 S0) H) (_ : va_S A s.heap H locs) (ls : Array Slot) (_ : lv_has ls 5 [(0, .ref (d0 0)), (1, .int p0), (2, .int p1), (3, .int x3), (4, .int x4)]) (_ : xX9_plan_h27 p0 p1 n x3 x4 S0 = some tg), W p l e (headSpec wsX9_plan rmX9_plan).room s m ([.ref (d0 0), .int p0, .int p1] : List Value).toArray below meth c H locs 0 0 Q (F0 m 27 ls []) := by
    intro n
    induction n with
    | zero =>
      intro x3 x4 S0 H locs hP hS ls hl ht
      exact it_z ht
    | succ n27 ih27 =>
      intro x3 x4 S0 H locs hP hS ls hl ht
      have ht := (xX9_plan_h27_s p0 p1 n27 x3 x4 S0).symm.trans ht
      refine lv_iload hx hb dX9_plan_27 (lv_at hl 4 rfl) ?_
      refine lv_sipush (v := 256) hx hb dX9_plan_29 (by decide +kernel) ?_
      refine lv_icmp_ge (tgt := 72) hx hb dX9_plan_32 (by decide) (fun c5 => ?_) (fun c5 => ?_)
      · have ht := it_p c5 ht
        refine lv_iload_n hx hb dX9_plan_72 rfl (lv_at hl 2 rfl) ?_
        refine lv_if_ne (tgt := 84) hx hb dX9_plan_73 (by decide) (fun c6 => ?_) (fun c6 => ?_)
        · have ht := it_n c6 ht
          refine lv_iload_n hx hb dX9_plan_84 rfl (lv_at hl 3 rfl) ?_
          subst hQ
          obtain rfl := Option.some.inj ht
          exact W.iret (v := x3) hx hb hr (fun t e1 hW => ⟨⟨_, (), rfl, ⟨rfl, trivial⟩, q_at e1 hP⟩, hS.F e1⟩) hS.2.2 dX9_plan_85
        · have ht := it_p c6 ht
          refine lv_aload_n hx hb dX9_plan_76 rfl (lv_at hl 0 rfl) ?_
          refine lv_iload_n hx hb dX9_plan_77 rfl (lv_at hl 3 rfl) ?_
          obtain ⟨q7, hq7, ht⟩ := it_b ht
          refine q_ri (va_runV (As := [.int x3]) (rest := []) ⟨hx, hb, hml, hown, hts⟩ (kX9_figuresOf l D cI cZ cO d0 S0 x3 q7 hq7) (cwV 1 hts gX9_plan_X9_figuresOf rfl rfl rfl (by decide +kernel) ⟨Nat.le_of_ble_eq_true rfl, Nat.le_of_ble_eq_true rfl⟩) (q_rV (As := [.int x3]) hE hP (q0 := 0) (ci := 9) rfl rfl) rfl rfl hl.1 rfl (lv_room (Nat.le_of_ble_eq_true rfl)) dX9_plan_78 ⟨Nat.le_of_ble_eq_true rfl, Nat.le_of_ble_eq_true rfl⟩) (fun b8 => ?_)
          refine lv_goto (tgt := 85) hx hb dX9_plan_81 (by decide) ?_
          subst hQ
          obtain rfl := Option.some.inj ht
          exact W.iret (v := q7) hx hb hr (fun t e1 hW => ⟨⟨_, (), rfl, ⟨rfl, trivial⟩, q_at e1 hP⟩, hS.F e1⟩) hS.2.2 dX9_plan_85
      · have ht := it_n c5 ht
        refine lv_aload_n hx hb dX9_plan_35 rfl (lv_at hl 0 rfl) ?_
        refine lv_iload hx hb dX9_plan_36 (lv_at hl 4 rfl) ?_
        refine lv_iload_n hx hb dX9_plan_38 rfl (lv_at hl 1 rfl) ?_
        obtain ⟨q9, hq9, ht⟩ := it_b ht
        have hFc := q_freeW (hD S0) hS hA
        refine q_mi (va_runV (As := [.int x4, .int p0]) (rest := []) ⟨hx, hb, hml, hown, hts⟩ (kX9_canBe l D cI cZ cO d0 H.size S0 x4 p0 q9 hq9) (cwV 2 hts gX9_plan_X9_canBe rfl rfl rfl (by decide +kernel) ⟨Nat.le_of_ble_eq_true rfl, Nat.le_of_ble_eq_true rfl⟩) (q_mV (As := [.int x4, .int p0]) hE hP (hD S0) (q0 := 0) (ci := 9) rfl rfl) rfl rfl hl.1 rfl (lv_room (Nat.le_of_ble_eq_true rfl)) dX9_plan_39 ⟨Nat.le_of_ble_eq_true rfl, Nat.le_of_ble_eq_true rfl⟩) hS hFc (fun H locs b10 hP1 hk hS => ?_)
        have hP : va_P D vwCl (wg9 cI cZ d0 q9.2) H := hP1
        refine lv_if_eq (tgt := 64) hx hb dX9_plan_42 (by decide) (fun c11 => ?_) (fun c11 => ?_)
        · have ht := it_p c11 ht
          refine lv_iload_n hx hb dX9_plan_64 rfl (lv_at hl 3 rfl) ?_
          refine lv_istore_n (lv' := [(3, .int x3), (0, .ref (d0 0)), (1, .int p0), (2, .int p1), (4, .int x4)]) hx hb dX9_plan_65 rfl hl (by decide) rfl (fun ls hl => ?_)
          refine lv_iinc (v := x4 + 1) (lv' := [(4, .int (x4 + 1)), (3, .int x3), (0, .ref (d0 0)), (1, .int p0), (2, .int p1)]) hx hb dX9_plan_66 hl (k := 4) rfl rfl (by decide) rfl (fun ls hl => ?_)
          refine lv_goto (tgt := 27) hx hb dX9_plan_69 (by decide) ?_
          exact ih27 x3 (x4 + 1) q9.2 _ _ hP hS ls (lv_sub hl [2, 3, 4, 1, 0] rfl) ht
        · have ht := it_n c11 ht
          refine lv_aload_n hx hb dX9_plan_45 rfl (lv_at hl 0 rfl) ?_
          refine lv_iload hx hb dX9_plan_46 (lv_at hl 4 rfl) ?_
          obtain ⟨q12, hq12, ht⟩ := it_b ht
          refine q_ri (va_runV (As := [.int x4]) (rest := []) ⟨hx, hb, hml, hown, hts⟩ (kX9_figuresOf l D cI cZ cO d0 q9.2 x4 q12 hq12) (cwV 1 hts gX9_plan_X9_figuresOf rfl rfl rfl (by decide +kernel) ⟨Nat.le_of_ble_eq_true rfl, Nat.le_of_ble_eq_true rfl⟩) (q_rV (As := [.int x4]) hE hP (q0 := 0) (ci := 9) rfl rfl) rfl rfl hl.1 rfl (lv_room (Nat.le_of_ble_eq_true rfl)) dX9_plan_48 ⟨Nat.le_of_ble_eq_true rfl, Nat.le_of_ble_eq_true rfl⟩) (fun b13 => ?_)
          refine lv_aload_n hx hb dX9_plan_51 rfl (lv_at hl 0 rfl) ?_
          refine lv_iload_n hx hb dX9_plan_52 rfl (lv_at hl 3 rfl) ?_
          obtain ⟨q14, hq14, ht⟩ := it_b ht
          refine q_ri (va_runV (As := [.int x3]) (rest := [.int q12]) ⟨hx, hb, hml, hown, hts⟩ (kX9_figuresOf l D cI cZ cO d0 q9.2 x3 q14 hq14) (cwV 1 hts gX9_plan_X9_figuresOf rfl rfl rfl (by decide +kernel) ⟨Nat.le_of_ble_eq_true rfl, Nat.le_of_ble_eq_true rfl⟩) (q_rV (As := [.int x3]) hE hP (q0 := 0) (ci := 9) rfl rfl) rfl rfl hl.1 rfl (lv_room (Nat.le_of_ble_eq_true rfl)) dX9_plan_53 ⟨Nat.le_of_ble_eq_true rfl, Nat.le_of_ble_eq_true rfl⟩) (fun b15 => ?_)
          refine lv_icmp_le (tgt := 64) hx hb dX9_plan_56 (by decide) (fun c16 => ?_) (fun c16 => ?_)
          · have ht := it_p c16 ht
            refine lv_iload_n hx hb dX9_plan_64 rfl (lv_at hl 3 rfl) ?_
            refine lv_istore_n (lv' := [(3, .int x3), (0, .ref (d0 0)), (1, .int p0), (2, .int p1), (4, .int x4)]) hx hb dX9_plan_65 rfl hl (by decide) rfl (fun ls hl => ?_)
            refine lv_iinc (v := x4 + 1) (lv' := [(4, .int (x4 + 1)), (3, .int x3), (0, .ref (d0 0)), (1, .int p0), (2, .int p1)]) hx hb dX9_plan_66 hl (k := 4) rfl rfl (by decide) rfl (fun ls hl => ?_)
            refine lv_goto (tgt := 27) hx hb dX9_plan_69 (by decide) ?_
            exact ih27 x3 (x4 + 1) q9.2 _ _ hP hS ls (lv_sub hl [2, 3, 4, 1, 0] rfl) ht
          · have ht := it_n c16 ht
            refine lv_iload hx hb dX9_plan_59 (lv_at hl 4 rfl) ?_
            refine lv_goto (tgt := 65) hx hb dX9_plan_61 (by decide) ?_
            refine lv_istore_n (lv' := [(3, .int x4), (0, .ref (d0 0)), (1, .int p0), (2, .int p1), (4, .int x4)]) hx hb dX9_plan_65 rfl hl (by decide) rfl (fun ls hl => ?_)
            refine lv_iinc (v := x4 + 1) (lv' := [(4, .int (x4 + 1)), (3, .int x4), (0, .ref (d0 0)), (1, .int p0), (2, .int p1)]) hx hb dX9_plan_66 hl (k := 4) rfl rfl (by decide) rfl (fun ls hl => ?_)
            refine lv_goto (tgt := 27) hx hb dX9_plan_69 (by decide) ?_
            exact ih27 x4 (x4 + 1) q9.2 _ _ hP hS ls (lv_sub hl [2, 3, 4, 1, 0] rfl) ht
  refine lv_iload_n hx hb dX9_plan_0 rfl (lv_at hl 1 rfl) ?_
  refine q_ri (va_runS (As := [.int p0]) (rest := []) ⟨hx, hb, hml, hown, hts⟩ (kX9_isReader l D cI cZ cO p0) (va_cwS 1 hts gX9_plan_X9_isReader rfl rfl rfl (by decide +kernel) ⟨Nat.le_of_ble_eq_true rfl, Nat.le_of_ble_eq_true rfl⟩) (q_rS hE q_nil) rfl rfl hl.1 rfl (lv_room (Nat.le_of_ble_eq_true rfl)) dX9_plan_1 ⟨Nat.le_of_ble_eq_true rfl, Nat.le_of_ble_eq_true rfl⟩) (fun b1 => ?_)
  refine lv_if_ne (tgt := 9) hx hb dX9_plan_4 (by decide) (fun c2 => ?_) (fun c2 => ?_)
  · have ht := it_n c2 ht
    refine lv_iload_n hx hb dX9_plan_9 rfl (lv_at hl 2 rfl) ?_
    refine lv_i2l (v := p1.toInt64) hx hb dX9_plan_10 rfl ?_
    refine lv_lconst (v := 0) hx hb dX9_plan_11 (by decide) ?_
    refine lv_lconst (v := 1) hx hb dX9_plan_12 (by decide) ?_
    refine q_ri (va_runS (As := [.long p1.toInt64, .long 0, .long 1]) (rest := []) ⟨hx, hb, hml, hown, hts⟩ (kX9_in l D cI cZ cO p1.toInt64 0 1) (va_cwS 3 hts gX9_plan_X9_in rfl rfl rfl (by decide +kernel) ⟨Nat.le_of_ble_eq_true rfl, Nat.le_of_ble_eq_true rfl⟩) (q_rS hE q_nil) rfl rfl hl.1 rfl (lv_room (Nat.le_of_ble_eq_true rfl)) dX9_plan_13 ⟨Nat.le_of_ble_eq_true rfl, Nat.le_of_ble_eq_true rfl⟩) (fun b3 => ?_)
    refine lv_if_ne (tgt := 22) hx hb dX9_plan_16 (by decide) (fun c4 => ?_) (fun c4 => ?_)
    · have ht := it_n c4 ht
      refine lv_iconst (v := 0) hx hb dX9_plan_22 (by decide) ?_
      refine lv_istore_n (lv' := [(3, .int 0), (0, .ref (d0 0)), (1, .int p0), (2, .int p1)]) hx hb dX9_plan_23 rfl hl (by decide) rfl (fun ls hl => ?_)
      refine lv_iconst (v := 1) hx hb dX9_plan_24 (by decide) ?_
      refine lv_istore (lv' := [(4, .int 1), (3, .int 0), (0, .ref (d0 0)), (1, .int p0), (2, .int p1)]) hx hb dX9_plan_25 hl (by decide) rfl (fun ls hl => ?_)
      exact L27 5000 0 1 S0 _ _ hP hS ls (lv_sub hl [2, 3, 4, 1, 0] rfl) ht
    · have ht := it_p c4 ht
      refine lv_bipush (v := (-2)) hx hb dX9_plan_19 (by decide) ?_
      subst hQ
      obtain rfl := Option.some.inj ht
      exact W.iret (v := (-2)) hx hb hr (fun t e1 hW => ⟨⟨_, (), rfl, ⟨rfl, trivial⟩, q_at e1 hP⟩, hS.F e1⟩) hS.2.2 dX9_plan_21
  · have ht := it_p c2 ht
    refine lv_iconst (v := (-1)) hx hb dX9_plan_7 (by decide) ?_
    subst hQ
    obtain rfl := Option.some.inj ht
    exact W.iret (v := (-1)) hx hb hr (fun t e1 hW => ⟨⟨_, (), rfl, ⟨rfl, trivial⟩, q_at e1 hP⟩, hS.F e1⟩) hS.2.2 dX9_plan_8
