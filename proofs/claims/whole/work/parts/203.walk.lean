abbrev rmX8_followText : Room := { frames := 5, cells := 0, slots := 0, locals := 113 }
set_option maxHeartbeats 4000000 in
set_option maxRecDepth 100000 in
theorem kX8_followText (l : Launch) (D : va_G) (cI cZ cO : ClassId) (dd : Nat → Nat → Nat) (sz : Nat) (S0 : St) (S1 : St) (S2 : St) (S3 : St) (S4 : St) (tg : Int32 × St × St × St) (ht : xX8_followText S0 S1 S2 S3 S4 = some tg) : Met l yX8_followText wsX8_followText rmX8_followText (q_PM D cI cZ cO [.ref (dd 14 0)] sz (wg5 cI cZ (dd 0) S0 ++ (wg4 cI cZ (dd 1) S1 ++ (wg3 (dd 2) (dd 3) (dd 4) S2 ++ (wg5 cI cZ (dd 3) S3 ++ (wg0 cI cZ (dd 4) S4 ++ (wg8 dd))))))) (va_Qi (fun x (_ : Unit) => x = tg.1 ∧ True) (fun _ t => va_P D vwCl (wg5 cI cZ (dd 0) S0 ++ (wg4 cI cZ (dd 1) S1 ++ (wg3 (dd 2) (dd 3) (dd 4) tg.2.1 ++ (wg5 cI cZ (dd 3) tg.2.2.1 ++ (wg0 cI cZ (dd 4) tg.2.2.2 ++ (wg8 dd)))))) t.heap) (va_A (wg5 cI cZ (dd 0) S0 ++ (wg4 cI cZ (dd 1) S1 ++ (wg3 (dd 2) (dd 3) (dd 4) S2 ++ (wg5 cI cZ (dd 3) S3 ++ (wg0 cI cZ (dd 4) S4 ++ (wg8 dd)))))) sz)) 0 0 (va_A (wg5 cI cZ (dd 0) S0 ++ (wg4 cI cZ (dd 1) S1 ++ (wg3 (dd 2) (dd 3) (dd 4) S2 ++ (wg5 cI cZ (dd 3) S3 ++ (wg0 cI cZ (dd 4) S4 ++ (wg8 dd)))))) sz) := by
  refine Met.ofW (cc := cX8_followText) (maxL := 1) (ret := (some .int)) (by decide) rfl ?_
  intro p e s m args below meth c s₁ B hml hv
  obtain ⟨rfl, hsz, hE, hP, hD0⟩ := hv
  have hx := B.exec
  have hb := B.bytes
  have hr := B.returns
  have hts := atoms_spec (ws := wsX8_followText) B.pre
  have hown : s.vm.findClass RX8 = some m.cls := findClass_of_methodNamed B.named
  have hlocks := B.notSynchronized
  have hi8 : ∀ w ∈ u_ws RX8 TX8 7, w ∈ wsX8_followText := by decide +kernel
  have hi3 : ∀ w ∈ u_ws RX3 TX3 8, w ∈ wsX8_followText := by decide +kernel
  have hw0 := hts (.fieldLink RX8 19 "HailNames" "pad" "LHailNames$Pad;") (by decide +kernel)
  have hw1 := hts (.fieldLink RX8 26 "HailNames" "outcome" "LHailNames$Outcome;") (by decide +kernel)
  have hw2 := hts (.fieldLink RX8 10 "HailNames" "now" "LHailNames$Plain;") (by decide +kernel)
  have hw3 := hts (.fieldLink RX8 116 "HailNames$Outcome" "badAct" "I") (by decide +kernel)
  subst hsz
  have hD1 := hD0.self (sz := s.heap.size)
  generalize hAe : va_A (wg5 cI cZ (dd 0) S0 ++ (wg4 cI cZ (dd 1) S1 ++ (wg3 (dd 2) (dd 3) (dd 4) S2 ++ (wg5 cI cZ (dd 3) S3 ++ (wg0 cI cZ (dd 4) S4 ++ (wg8 dd)))))) s.heap.size = A at hD1 ⊢
  have hA : ∀ q : Nat, s.heap.size ≤ q → A q := fun q h => by rw [← hAe]; exact Or.inr h
  have hS : va_S A s.heap s.heap [] := va_S.rf
  have hD : ∀ (S0 : St) (S1 : St) (S2 : St) (S3 : St) (S4 : St), va_D A (wg5 cI cZ (dd 0) S0 ++ (wg4 cI cZ (dd 1) S1 ++ (wg3 (dd 2) (dd 3) (dd 4) S2 ++ (wg5 cI cZ (dd 3) S3 ++ (wg0 cI cZ (dd 4) S4 ++ (wg8 dd)))))) := fun S0 S1 S2 S3 S4 => q_D hD1 rfl
  have hl := lv_entry ([.ref (dd 14 0)]) (n := 1) (Nat.le_of_ble_eq_true rfl)
  rw [lg_entry_eq]
  generalize (lg_sl ([.ref (dd 14 0)]) ++ List.replicate (1 - (lg_sl ([.ref (dd 14 0)])).length) Slot.unset).toArray = ls at hl ⊢
  have hl : lv_has ls 1 [(0, .ref (dd 14 0))] := hl
  have ht := (xX8_followText_s S0 S1 S2 S3 S4).symm.trans ht
  refine lv_aload_n hx hb dX8_followText_0 rfl (lv_at hl 0 rfl) ?_
  refine va_get (D := D) (ci := 8) (v := .ref (dd 1 0)) (C := RX8) (T := TX8) (N := 7) hx hb hts hi8 hown hE.1 hP 24 rfl rfl 1 (by decide) hw0 (fun _ h9 => h9) rfl dX8_followText_1 ?_
  obtain ⟨q1, hq1, ht⟩ := it_b ht
  have hPc : va_P D vwCl (wg4 cI cZ (dd 1) S1) s.heap := hP.sub [10, 11] rfl
  refine q_ri (va_runV (As := []) (rest := []) ⟨hx, hb, hml, hown, hts⟩ (kX4_firstFault l D cI cZ cO (dd 1) S1 q1 hq1) (cwV 0 hts gX8_followText_X4_firstFault rfl rfl rfl (by decide +kernel) ⟨Nat.le_of_ble_eq_true rfl, Nat.le_of_ble_eq_true rfl⟩) (q_rV (As := []) hE hPc (q0 := 0) (ci := 4) rfl rfl) rfl rfl hl.1 rfl (lv_room (Nat.le_of_ble_eq_true rfl)) dX8_followText_4 ⟨Nat.le_of_ble_eq_true rfl, Nat.le_of_ble_eq_true rfl⟩) (fun b2 => ?_)
  refine lv_bipush (v := (-6)) hx hb dX8_followText_7 (by decide) ?_
  refine lv_icmp_eq (tgt := 15) hx hb dX8_followText_9 (by decide) (fun c3 => ?_) (fun c3 => ?_)
  · have ht := it_p c3 ht
    refine lv_aload_n hx hb dX8_followText_15 rfl (lv_at hl 0 rfl) ?_
    refine va_get (D := D) (ci := 8) (v := .ref (dd 2 0)) (C := RX8) (T := TX8) (N := 7) hx hb hts hi8 hown hE.1 hP 24 rfl rfl 2 (by decide) hw1 (fun _ h9 => h9) rfl dX8_followText_16 ?_
    refine lv_aload_n hx hb dX8_followText_19 rfl (lv_at hl 0 rfl) ?_
    refine va_get (D := D) (ci := 8) (v := .ref (dd 0 0)) (C := RX8) (T := TX8) (N := 7) hx hb hts hi8 hown hE.1 hP 24 rfl rfl 0 (by decide) hw2 (fun _ h9 => h9) rfl dX8_followText_20 ?_
    obtain ⟨q4, hq4, ht⟩ := it_b ht
    have hPc : va_P D vwCl (wg3 (dd 2) (dd 3) (dd 4) S2 ++ (wg5 cI cZ (dd 3) S3 ++ (wg5 cI cZ (dd 0) S0))) s.heap := hP.sub [12, 13, 14, 15, 16, 17, 18, 19, 20, 21, 22, 0, 1, 2, 3, 4, 5, 6, 7, 8, 9] rfl
    have hDc : va_D A (wg3 (dd 2) (dd 3) (dd 4) S2 ++ (wg5 cI cZ (dd 3) S3 ++ (wg5 cI cZ (dd 0) S0))) := ((hD S0 S1 S2 S3 S4)).sub [12, 13, 14, 15, 16, 17, 18, 19, 20, 21, 22, 0, 1, 2, 3, 4, 5, 6, 7, 8, 9] (by decide) rfl
    have hFc := va_free (wc := (wg3 (dd 2) (dd 3) (dd 4) S2 ++ (wg5 cI cZ (dd 3) S3 ++ (wg5 cI cZ (dd 0) S0)))) (hD S0 S1 S2 S3 S4) hS hA [12, 13, 14, 15, 16, 17, 18, 19, 20, 21, 22, 0, 1, 2, 3, 4, 5, 6, 7, 8, 9] rfl
    refine q_mv (va_runV (As := [.ref (dd 0 0)]) (rest := []) ⟨hx, hb, hml, hown, hts⟩ (kX3_startFrom l D cI cZ cO (dd 2) (dd 3) (dd 4) (dd 0) s.heap.size S2 S3 S0 q4 hq4) (cwV 1 hts gX8_followText_X3_startFrom rfl rfl rfl (by decide +kernel) ⟨Nat.le_of_ble_eq_true rfl, Nat.le_of_ble_eq_true rfl⟩) (q_mV (As := [.ref (dd 0 0)]) hE hPc hDc (q0 := 0) (ci := 3) rfl rfl) rfl rfl hl.1 rfl (lv_room (Nat.le_of_ble_eq_true rfl)) dX8_followText_23 ⟨Nat.le_of_ble_eq_true rfl, Nat.le_of_ble_eq_true rfl⟩) hS hFc (fun H locs hP1 hk hS => ?_)
    have hP : va_P D vwCl (wg5 cI cZ (dd 0) S0 ++ (wg4 cI cZ (dd 1) S1 ++ (wg3 (dd 2) (dd 3) (dd 4) q4.1 ++ (wg5 cI cZ (dd 3) q4.2 ++ (wg0 cI cZ (dd 4) S4 ++ (wg8 dd)))))) H := (q_join (wr := (wg4 cI cZ (dd 1) S1 ++ (wg0 cI cZ (dd 4) S4 ++ (wg8 dd)))) hP (hD S0 S1 S2 S3 S4) [12, 13, 14, 15, 16, 17, 18, 19, 20, 21, 22, 0, 1, 2, 3, 4, 5, 6, 7, 8, 9] [10, 11, 23, 24] rfl rfl (by decide) (by decide) hk hFc hP1 hDc rfl).sub [15, 16, 17, 18, 19, 20, 21, 22, 23, 24, 0, 1, 4, 5, 6, 7, 8, 9, 10, 11, 12, 13, 14, 2, 3] rfl
    refine lv_aload_n hx hb dX8_followText_26 rfl (lv_at hl 0 rfl) ?_
    refine va_get (D := D) (ci := 8) (v := .ref (dd 2 0)) (C := RX8) (T := TX8) (N := 7) hx hb hts hi8 hown hE.1 hP 24 rfl rfl 2 (by decide) hw1 (fun _ h9 => h9) rfl dX8_followText_27 ?_
    refine lv_aload_n hx hb dX8_followText_30 rfl (lv_at hl 0 rfl) ?_
    refine va_get (D := D) (ci := 8) (v := .ref (dd 1 0)) (C := RX8) (T := TX8) (N := 7) hx hb hts hi8 hown hE.1 hP 24 rfl rfl 1 (by decide) hw0 (fun _ h9 => h9) rfl dX8_followText_31 ?_
    obtain ⟨q5, hq5, ht⟩ := it_b ht
    have hPc : va_P D vwCl (wg3 (dd 2) (dd 3) (dd 4) q4.1 ++ (wg5 cI cZ (dd 3) q4.2 ++ (wg0 cI cZ (dd 4) S4 ++ (wg4 cI cZ (dd 1) S1)))) H := hP.sub [12, 13, 14, 15, 16, 17, 18, 19, 20, 21, 22, 23, 10, 11] rfl
    have hDc : va_D A (wg3 (dd 2) (dd 3) (dd 4) q4.1 ++ (wg5 cI cZ (dd 3) q4.2 ++ (wg0 cI cZ (dd 4) S4 ++ (wg4 cI cZ (dd 1) S1)))) := ((hD S0 S1 q4.1 q4.2 S4)).sub [12, 13, 14, 15, 16, 17, 18, 19, 20, 21, 22, 23, 10, 11] (by decide) rfl
    have hFc := va_free (wc := (wg3 (dd 2) (dd 3) (dd 4) q4.1 ++ (wg5 cI cZ (dd 3) q4.2 ++ (wg0 cI cZ (dd 4) S4 ++ (wg4 cI cZ (dd 1) S1))))) (hD S0 S1 q4.1 q4.2 S4) hS hA [12, 13, 14, 15, 16, 17, 18, 19, 20, 21, 22, 23, 10, 11] rfl
    refine q_mv (va_runV (As := [.ref (dd 1 0)]) (rest := []) ⟨hx, hb, hml, hown, hts⟩ (kX3_follow l D cI cZ cO (dd 2) (dd 3) (dd 4) (dd 1) H.size q4.1 q4.2 S4 S1 q5 hq5) (cwV 1 hts gX8_followText_X3_follow rfl rfl rfl (by decide +kernel) ⟨Nat.le_of_ble_eq_true rfl, Nat.le_of_ble_eq_true rfl⟩) (q_mV (As := [.ref (dd 1 0)]) hE hPc hDc (q0 := 0) (ci := 3) rfl rfl) rfl rfl hl.1 rfl (lv_room (Nat.le_of_ble_eq_true rfl)) dX8_followText_34 ⟨Nat.le_of_ble_eq_true rfl, Nat.le_of_ble_eq_true rfl⟩) hS hFc (fun H locs hP1 hk hS => ?_)
    have hP : va_P D vwCl (wg5 cI cZ (dd 0) S0 ++ (wg4 cI cZ (dd 1) S1 ++ (wg3 (dd 2) (dd 3) (dd 4) q5.1 ++ (wg5 cI cZ (dd 3) q5.2.1 ++ (wg0 cI cZ (dd 4) q5.2.2 ++ (wg8 dd)))))) H := (q_join (wr := (wg5 cI cZ (dd 0) S0 ++ (wg8 dd))) hP (hD S0 S1 q4.1 q4.2 S4) [12, 13, 14, 15, 16, 17, 18, 19, 20, 21, 22, 23, 10, 11] [0, 1, 2, 3, 4, 5, 6, 7, 8, 9, 24] rfl rfl (by decide) (by decide) hk hFc hP1 hDc rfl).sub [0, 1, 2, 3, 4, 5, 6, 7, 8, 9, 23, 24, 11, 12, 13, 14, 15, 16, 17, 18, 19, 20, 21, 22, 10] rfl
    refine lv_aload_n hx hb dX8_followText_37 rfl (lv_at hl 0 rfl) ?_
    refine va_get (D := D) (ci := 8) (v := .ref (dd 2 0)) (C := RX8) (T := TX8) (N := 7) hx hb hts hi8 hown hE.1 hP 24 rfl rfl 2 (by decide) hw1 (fun _ h9 => h9) rfl dX8_followText_38 ?_
    refine va_get (D := D) (ci := 3) (v := .int (q5.1 3 0)) (C := RX3) (T := TX3) (N := 8) hx hb hts hi3 hown hE.1 hP 12 rfl rfl 3 (by decide) hw3 (fun _ h9 => h9) rfl dX8_followText_41 ?_
    refine lv_bipush (v := (-6)) hx hb dX8_followText_44 (by decide) ?_
    refine lv_icmp_ne (tgt := 53) hx hb dX8_followText_46 (by decide) (fun c6 => ?_) (fun c6 => ?_)
    · have ht := it_n c6 ht
      refine lv_bipush (v := (-3)) hx hb dX8_followText_53 (by decide) ?_
      obtain rfl := Option.some.inj ht
      exact W.iret (v := (-3)) hx hb hr (fun t e1 hW => ⟨⟨_, (), rfl, ⟨rfl, trivial⟩, q_at e1 hP⟩, hS.F e1⟩) hS.2.2 dX8_followText_55
    · have ht := it_p c6 ht
      refine lv_iconst (v := 0) hx hb dX8_followText_49 (by decide) ?_
      refine lv_goto (tgt := 55) hx hb dX8_followText_50 (by decide) ?_
      obtain rfl := Option.some.inj ht
      exact W.iret (v := 0) hx hb hr (fun t e1 hW => ⟨⟨_, (), rfl, ⟨rfl, trivial⟩, q_at e1 hP⟩, hS.F e1⟩) hS.2.2 dX8_followText_55
  · have ht := it_n c3 ht
    refine lv_bipush (v := (-5)) hx hb dX8_followText_12 (by decide) ?_
    obtain rfl := Option.some.inj ht
    exact W.iret (v := (-5)) hx hb hr (fun t e1 hW => ⟨⟨_, (), rfl, ⟨rfl, trivial⟩, q_at e1 hP⟩, hS.F e1⟩) hS.2.2 dX8_followText_14
abbrev rmX8_judge : Room := { frames := 6, cells := 0, slots := 0, locals := 133 }
set_option maxHeartbeats 4000000 in
set_option maxRecDepth 100000 in
theorem kX8_judge (l : Launch) (D : va_G) (cI cZ cO : ClassId) (dd : Nat → Nat → Nat) (sz : Nat) (S0 : St) (S1 : St) (S2 : St) (S3 : St) (S4 : St) (p0 : Int32) (tg : Int32 × St × St × St) (ht : xX8_judge S0 S1 p0 S2 S3 S4 = some tg) : Met l yX8_judge wsX8_judge rmX8_judge (q_PM D cI cZ cO [.ref (dd 14 0), .int p0] sz (wg5 cI cZ (dd 0) S0 ++ (wg4 cI cZ (dd 1) S1 ++ (wg3 (dd 2) (dd 3) (dd 4) S2 ++ (wg5 cI cZ (dd 3) S3 ++ (wg0 cI cZ (dd 4) S4 ++ (wg8 dd))))))) (va_Qi (fun x (_ : Unit) => x = tg.1 ∧ True) (fun _ t => va_P D vwCl (wg5 cI cZ (dd 0) S0 ++ (wg4 cI cZ (dd 1) S1 ++ (wg3 (dd 2) (dd 3) (dd 4) tg.2.1 ++ (wg5 cI cZ (dd 3) tg.2.2.1 ++ (wg0 cI cZ (dd 4) tg.2.2.2 ++ (wg8 dd)))))) t.heap) (va_A (wg5 cI cZ (dd 0) S0 ++ (wg4 cI cZ (dd 1) S1 ++ (wg3 (dd 2) (dd 3) (dd 4) S2 ++ (wg5 cI cZ (dd 3) S3 ++ (wg0 cI cZ (dd 4) S4 ++ (wg8 dd)))))) sz)) 0 0 (va_A (wg5 cI cZ (dd 0) S0 ++ (wg4 cI cZ (dd 1) S1 ++ (wg3 (dd 2) (dd 3) (dd 4) S2 ++ (wg5 cI cZ (dd 3) S3 ++ (wg0 cI cZ (dd 4) S4 ++ (wg8 dd)))))) sz) := by
  refine Met.ofW (cc := cX8_judge) (maxL := 3) (ret := (some .int)) (by decide) rfl ?_
  intro p e s m args below meth c s₁ B hml hv
  obtain ⟨rfl, hsz, hE, hP, hD0⟩ := hv
  have hx := B.exec
  have hb := B.bytes
  have hr := B.returns
  have hts := atoms_spec (ws := wsX8_judge) B.pre
  have hown : s.vm.findClass RX8 = some m.cls := findClass_of_methodNamed B.named
  have hlocks := B.notSynchronized
  have hi8 : ∀ w ∈ u_ws RX8 TX8 7, w ∈ wsX8_judge := by decide +kernel
  have hi3 : ∀ w ∈ u_ws RX3 TX3 8, w ∈ wsX8_judge := by decide +kernel
  have hw0 := hts (.fieldLink RX8 26 "HailNames" "outcome" "LHailNames$Outcome;") (by decide +kernel)
  have hw1 := hts (.fieldLink RX8 122 "HailNames$Outcome" "stonesLost" "I") (by decide +kernel)
  have hw2 := hts (.fieldLink RX8 119 "HailNames$Outcome" "why" "I") (by decide +kernel)
  have hw3 := hts (.fieldLink RX8 116 "HailNames$Outcome" "badAct" "I") (by decide +kernel)
  subst hsz
  have hD1 := hD0.self (sz := s.heap.size)
  generalize hAe : va_A (wg5 cI cZ (dd 0) S0 ++ (wg4 cI cZ (dd 1) S1 ++ (wg3 (dd 2) (dd 3) (dd 4) S2 ++ (wg5 cI cZ (dd 3) S3 ++ (wg0 cI cZ (dd 4) S4 ++ (wg8 dd)))))) s.heap.size = A at hD1 ⊢
  have hA : ∀ q : Nat, s.heap.size ≤ q → A q := fun q h => by rw [← hAe]; exact Or.inr h
  have hS : va_S A s.heap s.heap [] := va_S.rf
  have hD : ∀ (S0 : St) (S1 : St) (S2 : St) (S3 : St) (S4 : St), va_D A (wg5 cI cZ (dd 0) S0 ++ (wg4 cI cZ (dd 1) S1 ++ (wg3 (dd 2) (dd 3) (dd 4) S2 ++ (wg5 cI cZ (dd 3) S3 ++ (wg0 cI cZ (dd 4) S4 ++ (wg8 dd)))))) := fun S0 S1 S2 S3 S4 => q_D hD1 rfl
  have hl := lv_entry ([.ref (dd 14 0), .int p0]) (n := 3) (Nat.le_of_ble_eq_true rfl)
  rw [lg_entry_eq]
  generalize (lg_sl ([.ref (dd 14 0), .int p0]) ++ List.replicate (3 - (lg_sl ([.ref (dd 14 0), .int p0])).length) Slot.unset).toArray = ls at hl ⊢
  have hl : lv_has ls 3 [(0, .ref (dd 14 0)), (1, .int p0)] := hl
  have ht := (xX8_judge_s S0 S1 p0 S2 S3 S4).symm.trans ht
  refine lv_iload_n hx hb dX8_judge_0 rfl (lv_at hl 1 rfl) ?_
  refine lv_iconst (v := 0) hx hb dX8_judge_1 (by decide) ?_
  refine lv_iconst (v := 2) hx hb dX8_judge_2 (by decide) ?_
  refine q_ri (va_runS (As := [.int p0, .int 0, .int 2]) (rest := []) ⟨hx, hb, hml, hown, hts⟩ (kX8_within l D cI cZ cO p0 0 2) (va_cwS 3 hts gX8_judge_X8_within rfl rfl rfl (by decide +kernel) ⟨Nat.le_of_ble_eq_true rfl, Nat.le_of_ble_eq_true rfl⟩) (q_rS hE q_nil) rfl rfl hl.1 rfl (lv_room (Nat.le_of_ble_eq_true rfl)) dX8_judge_3 ⟨Nat.le_of_ble_eq_true rfl, Nat.le_of_ble_eq_true rfl⟩) (fun b1 => ?_)
  refine lv_if_ne (tgt := 12) hx hb dX8_judge_6 (by decide) (fun c2 => ?_) (fun c2 => ?_)
  · have ht := it_n c2 ht
    refine lv_aload_n hx hb dX8_judge_12 rfl (lv_at hl 0 rfl) ?_
    obtain ⟨q3, hq3, ht⟩ := it_b ht
    have hFc := q_freeW (hD S0 S1 S2 S3 S4) hS hA
    refine q_mi (va_runV (As := []) (rest := []) ⟨hx, hb, hml, hown, hts⟩ (kX8_followText l D cI cZ cO dd s.heap.size S0 S1 S2 S3 S4 q3 hq3) (cwV 0 hts gX8_judge_X8_followText rfl rfl rfl (by decide +kernel) ⟨Nat.le_of_ble_eq_true rfl, Nat.le_of_ble_eq_true rfl⟩) (q_mV (As := []) hE hP (hD S0 S1 S2 S3 S4) (q0 := 24) (ci := 8) rfl rfl) rfl rfl hl.1 rfl (lv_room (Nat.le_of_ble_eq_true rfl)) dX8_judge_13 ⟨Nat.le_of_ble_eq_true rfl, Nat.le_of_ble_eq_true rfl⟩) hS hFc (fun H locs b4 hP1 hk hS => ?_)
    have hP : va_P D vwCl (wg5 cI cZ (dd 0) S0 ++ (wg4 cI cZ (dd 1) S1 ++ (wg3 (dd 2) (dd 3) (dd 4) q3.2.1 ++ (wg5 cI cZ (dd 3) q3.2.2.1 ++ (wg0 cI cZ (dd 4) q3.2.2.2 ++ (wg8 dd)))))) H := hP1
    refine lv_istore_n (lv' := [(2, .int q3.1), (0, .ref (dd 14 0)), (1, .int p0)]) hx hb dX8_judge_16 rfl hl (by decide) rfl (fun ls hl => ?_)
    refine lv_iload_n hx hb dX8_judge_17 rfl (lv_at hl 0 rfl) ?_
    refine lv_bipush (v := (-5)) hx hb dX8_judge_18 (by decide) ?_
    refine lv_icmp_ne (tgt := 26) hx hb dX8_judge_20 (by decide) (fun c5 => ?_) (fun c5 => ?_)
    · have ht := it_n c5 ht
      refine lv_iload_n hx hb dX8_judge_26 rfl (lv_at hl 2 rfl) ?_
      refine lv_if_ne (tgt := 38) hx hb dX8_judge_27 (by decide) (fun c6 => ?_) (fun c6 => ?_)
      · have ht := it_n c6 ht
        refine lv_iload_n hx hb dX8_judge_38 rfl (lv_at hl 2 rfl) ?_
        refine lv_iconst (v := 1) hx hb dX8_judge_39 (by decide) ?_
        refine lv_icmp_ne (tgt := 51) hx hb dX8_judge_40 (by decide) (fun c7 => ?_) (fun c7 => ?_)
        · have ht := it_n c7 ht
          refine lv_iload_n hx hb dX8_judge_51 rfl (lv_at hl 0 rfl) ?_
          refine lv_if_ne (tgt := 65) hx hb dX8_judge_52 (by decide) (fun c8 => ?_) (fun c8 => ?_)
          · have ht := it_n c8 ht
            refine lv_iload_n hx hb dX8_judge_65 rfl (lv_at hl 0 rfl) ?_
            obtain rfl := Option.some.inj ht
            exact W.iret (v := q3.1) hx hb hr (fun t e1 hW => ⟨⟨_, (), rfl, ⟨rfl, trivial⟩, q_at e1 hP⟩, hS.F e1⟩) hS.2.2 dX8_judge_66
          · have ht := it_p c8 ht
            refine lv_aload_n hx hb dX8_judge_55 rfl (lv_at hl 1 rfl) ?_
            refine va_get (D := D) (ci := 8) (v := .ref (dd 2 0)) (C := RX8) (T := TX8) (N := 7) hx hb hts hi8 hown hE.1 hP 24 rfl rfl 2 (by decide) hw0 (fun _ h9 => h9) rfl dX8_judge_56 ?_
            refine va_get (D := D) (ci := 3) (v := .int (q3.2.1 5 0)) (C := RX3) (T := TX3) (N := 8) hx hb hts hi3 hown hE.1 hP 12 rfl rfl 5 (by decide) hw1 (fun _ h9 => h9) rfl dX8_judge_59 ?_
            refine lv_goto (tgt := 66) hx hb dX8_judge_62 (by decide) ?_
            obtain rfl := Option.some.inj ht
            exact W.iret (v := q3.2.1 5 0) hx hb hr (fun t e1 hW => ⟨⟨_, (), rfl, ⟨rfl, trivial⟩, q_at e1 hP⟩, hS.F e1⟩) hS.2.2 dX8_judge_66
        · have ht := it_p c7 ht
          refine lv_aload_n hx hb dX8_judge_43 rfl (lv_at hl 1 rfl) ?_
          refine va_get (D := D) (ci := 8) (v := .ref (dd 2 0)) (C := RX8) (T := TX8) (N := 7) hx hb hts hi8 hown hE.1 hP 24 rfl rfl 2 (by decide) hw0 (fun _ h9 => h9) rfl dX8_judge_44 ?_
          refine va_get (D := D) (ci := 3) (v := .int (q3.2.1 4 0)) (C := RX3) (T := TX3) (N := 8) hx hb hts hi3 hown hE.1 hP 12 rfl rfl 4 (by decide) hw2 (fun _ h9 => h9) rfl dX8_judge_47 ?_
          obtain rfl := Option.some.inj ht
          exact W.iret (v := q3.2.1 4 0) hx hb hr (fun t e1 hW => ⟨⟨_, (), rfl, ⟨rfl, trivial⟩, q_at e1 hP⟩, hS.F e1⟩) hS.2.2 dX8_judge_50
      · have ht := it_p c6 ht
        refine lv_aload_n hx hb dX8_judge_30 rfl (lv_at hl 1 rfl) ?_
        refine va_get (D := D) (ci := 8) (v := .ref (dd 2 0)) (C := RX8) (T := TX8) (N := 7) hx hb hts hi8 hown hE.1 hP 24 rfl rfl 2 (by decide) hw0 (fun _ h9 => h9) rfl dX8_judge_31 ?_
        refine va_get (D := D) (ci := 3) (v := .int (q3.2.1 3 0)) (C := RX3) (T := TX3) (N := 8) hx hb hts hi3 hown hE.1 hP 12 rfl rfl 3 (by decide) hw3 (fun _ h9 => h9) rfl dX8_judge_34 ?_
        obtain rfl := Option.some.inj ht
        exact W.iret (v := q3.2.1 3 0) hx hb hr (fun t e1 hW => ⟨⟨_, (), rfl, ⟨rfl, trivial⟩, q_at e1 hP⟩, hS.F e1⟩) hS.2.2 dX8_judge_37
    · have ht := it_p c5 ht
      refine lv_bipush (v := (-5)) hx hb dX8_judge_23 (by decide) ?_
      obtain rfl := Option.some.inj ht
      exact W.iret (v := (-5)) hx hb hr (fun t e1 hW => ⟨⟨_, (), rfl, ⟨rfl, trivial⟩, q_at e1 hP⟩, hS.F e1⟩) hS.2.2 dX8_judge_25
  · have ht := it_p c2 ht
    refine lv_bipush (v := (-2)) hx hb dX8_judge_9 (by decide) ?_
    obtain rfl := Option.some.inj ht
    exact W.iret (v := (-2)) hx hb hr (fun t e1 hW => ⟨⟨_, (), rfl, ⟨rfl, trivial⟩, q_at e1 hP⟩, hS.F e1⟩) hS.2.2 dX8_judge_11
abbrev rmX8_behind : Room := { frames := 6, cells := 0, slots := 0, locals := 133 }
set_option maxHeartbeats 4000000 in
set_option maxRecDepth 100000 in
theorem kX8_behind (l : Launch) (D : va_G) (cI cZ cO : ClassId) (dd : Nat → Nat → Nat) (sz : Nat) (S0 : St) (S1 : St) (S2 : St) (S3 : St) (S4 : St) (p0 : Int32) (p1 : Int32) (tg : Int32 × St × St × St) (ht : xX8_behind S0 S1 p0 p1 S2 S3 S4 = some tg) : Met l yX8_behind wsX8_behind rmX8_behind (q_PM D cI cZ cO [.ref (dd 14 0), .int p0, .int p1] sz (wg5 cI cZ (dd 0) S0 ++ (wg4 cI cZ (dd 1) S1 ++ (wg3 (dd 2) (dd 3) (dd 4) S2 ++ (wg5 cI cZ (dd 3) S3 ++ (wg0 cI cZ (dd 4) S4 ++ (wg8 dd))))))) (va_Qi (fun x (_ : Unit) => x = tg.1 ∧ True) (fun _ t => va_P D vwCl (wg5 cI cZ (dd 0) S0 ++ (wg4 cI cZ (dd 1) S1 ++ (wg3 (dd 2) (dd 3) (dd 4) tg.2.1 ++ (wg5 cI cZ (dd 3) tg.2.2.1 ++ (wg0 cI cZ (dd 4) tg.2.2.2 ++ (wg8 dd)))))) t.heap) (va_A (wg5 cI cZ (dd 0) S0 ++ (wg4 cI cZ (dd 1) S1 ++ (wg3 (dd 2) (dd 3) (dd 4) S2 ++ (wg5 cI cZ (dd 3) S3 ++ (wg0 cI cZ (dd 4) S4 ++ (wg8 dd)))))) sz)) 0 0 (va_A (wg5 cI cZ (dd 0) S0 ++ (wg4 cI cZ (dd 1) S1 ++ (wg3 (dd 2) (dd 3) (dd 4) S2 ++ (wg5 cI cZ (dd 3) S3 ++ (wg0 cI cZ (dd 4) S4 ++ (wg8 dd)))))) sz) := by
  refine Met.ofW (cc := cX8_behind) (maxL := 4) (ret := (some .int)) (by decide) rfl ?_
  intro p e s m args below meth c s₁ B hml hv
  obtain ⟨rfl, hsz, hE, hP, hD0⟩ := hv
  have hx := B.exec
  have hb := B.bytes
  have hr := B.returns
  have hts := atoms_spec (ws := wsX8_behind) B.pre
  have hown : s.vm.findClass RX8 = some m.cls := findClass_of_methodNamed B.named
  have hlocks := B.notSynchronized
  have hi8 : ∀ w ∈ u_ws RX8 TX8 7, w ∈ wsX8_behind := by decide +kernel
  have hi3 : ∀ w ∈ u_ws RX3 TX3 8, w ∈ wsX8_behind := by decide +kernel
  have hw0 := hts (.fieldLink RX8 26 "HailNames" "outcome" "LHailNames$Outcome;") (by decide +kernel)
  have hw1 := hts (.fieldLink RX8 125 "HailNames$Outcome" "after" "LHailNames$Plain;") (by decide +kernel)
  subst hsz
  have hD1 := hD0.self (sz := s.heap.size)
  generalize hAe : va_A (wg5 cI cZ (dd 0) S0 ++ (wg4 cI cZ (dd 1) S1 ++ (wg3 (dd 2) (dd 3) (dd 4) S2 ++ (wg5 cI cZ (dd 3) S3 ++ (wg0 cI cZ (dd 4) S4 ++ (wg8 dd)))))) s.heap.size = A at hD1 ⊢
  have hA : ∀ q : Nat, s.heap.size ≤ q → A q := fun q h => by rw [← hAe]; exact Or.inr h
  have hS : va_S A s.heap s.heap [] := va_S.rf
  have hD : ∀ (S0 : St) (S1 : St) (S2 : St) (S3 : St) (S4 : St), va_D A (wg5 cI cZ (dd 0) S0 ++ (wg4 cI cZ (dd 1) S1 ++ (wg3 (dd 2) (dd 3) (dd 4) S2 ++ (wg5 cI cZ (dd 3) S3 ++ (wg0 cI cZ (dd 4) S4 ++ (wg8 dd)))))) := fun S0 S1 S2 S3 S4 => q_D hD1 rfl
  have hl := lv_entry ([.ref (dd 14 0), .int p0, .int p1]) (n := 4) (Nat.le_of_ble_eq_true rfl)
  rw [lg_entry_eq]
  generalize (lg_sl ([.ref (dd 14 0), .int p0, .int p1]) ++ List.replicate (4 - (lg_sl ([.ref (dd 14 0), .int p0, .int p1])).length) Slot.unset).toArray = ls at hl ⊢
  have hl : lv_has ls 4 [(0, .ref (dd 14 0)), (1, .int p0), (2, .int p1)] := hl
  have ht := (xX8_behind_s S0 S1 p0 p1 S2 S3 S4).symm.trans ht
  refine lv_iload_n hx hb dX8_behind_0 rfl (lv_at hl 1 rfl) ?_
  refine q_ri (va_runS (As := [.int p0]) (rest := []) ⟨hx, hb, hml, hown, hts⟩ (kX8_isPerson l D cI cZ cO p0) (va_cwS 1 hts gX8_behind_X8_isPerson rfl rfl rfl (by decide +kernel) ⟨Nat.le_of_ble_eq_true rfl, Nat.le_of_ble_eq_true rfl⟩) (q_rS hE q_nil) rfl rfl hl.1 rfl (lv_room (Nat.le_of_ble_eq_true rfl)) dX8_behind_1 ⟨Nat.le_of_ble_eq_true rfl, Nat.le_of_ble_eq_true rfl⟩) (fun b1 => ?_)
  refine lv_if_ne (tgt := 9) hx hb dX8_behind_4 (by decide) (fun c2 => ?_) (fun c2 => ?_)
  · have ht := it_n c2 ht
    refine lv_iload_n hx hb dX8_behind_9 rfl (lv_at hl 2 rfl) ?_
    refine lv_iconst (v := 0) hx hb dX8_behind_10 (by decide) ?_
    refine lv_iconst (v := 4) hx hb dX8_behind_11 (by decide) ?_
    refine q_ri (va_runS (As := [.int p1, .int 0, .int 4]) (rest := []) ⟨hx, hb, hml, hown, hts⟩ (kX8_within l D cI cZ cO p1 0 4) (va_cwS 3 hts gX8_behind_X8_within rfl rfl rfl (by decide +kernel) ⟨Nat.le_of_ble_eq_true rfl, Nat.le_of_ble_eq_true rfl⟩) (q_rS hE q_nil) rfl rfl hl.1 rfl (lv_room (Nat.le_of_ble_eq_true rfl)) dX8_behind_12 ⟨Nat.le_of_ble_eq_true rfl, Nat.le_of_ble_eq_true rfl⟩) (fun b3 => ?_)
    refine lv_if_ne (tgt := 21) hx hb dX8_behind_15 (by decide) (fun c4 => ?_) (fun c4 => ?_)
    · have ht := it_n c4 ht
      refine lv_aload_n hx hb dX8_behind_21 rfl (lv_at hl 0 rfl) ?_
      obtain ⟨q5, hq5, ht⟩ := it_b ht
      have hFc := q_freeW (hD S0 S1 S2 S3 S4) hS hA
      refine q_mi (va_runV (As := []) (rest := []) ⟨hx, hb, hml, hown, hts⟩ (kX8_followText l D cI cZ cO dd s.heap.size S0 S1 S2 S3 S4 q5 hq5) (cwV 0 hts gX8_behind_X8_followText rfl rfl rfl (by decide +kernel) ⟨Nat.le_of_ble_eq_true rfl, Nat.le_of_ble_eq_true rfl⟩) (q_mV (As := []) hE hP (hD S0 S1 S2 S3 S4) (q0 := 24) (ci := 8) rfl rfl) rfl rfl hl.1 rfl (lv_room (Nat.le_of_ble_eq_true rfl)) dX8_behind_22 ⟨Nat.le_of_ble_eq_true rfl, Nat.le_of_ble_eq_true rfl⟩) hS hFc (fun H locs b6 hP1 hk hS => ?_)
      have hP : va_P D vwCl (wg5 cI cZ (dd 0) S0 ++ (wg4 cI cZ (dd 1) S1 ++ (wg3 (dd 2) (dd 3) (dd 4) q5.2.1 ++ (wg5 cI cZ (dd 3) q5.2.2.1 ++ (wg0 cI cZ (dd 4) q5.2.2.2 ++ (wg8 dd)))))) H := hP1
      refine lv_istore_n (lv' := [(3, .int q5.1), (0, .ref (dd 14 0)), (1, .int p0), (2, .int p1)]) hx hb dX8_behind_25 rfl hl (by decide) rfl (fun ls hl => ?_)
      refine lv_iload_n hx hb dX8_behind_26 rfl (lv_at hl 0 rfl) ?_
      refine lv_if_ne (tgt := 45) hx hb dX8_behind_27 (by decide) (fun c7 => ?_) (fun c7 => ?_)
      · have ht := it_n c7 ht
        refine lv_iload_n hx hb dX8_behind_45 rfl (lv_at hl 0 rfl) ?_
        obtain rfl := Option.some.inj ht
        exact W.iret (v := q5.1) hx hb hr (fun t e1 hW => ⟨⟨_, (), rfl, ⟨rfl, trivial⟩, q_at e1 hP⟩, hS.F e1⟩) hS.2.2 dX8_behind_46
      · have ht := it_p c7 ht
        refine lv_aload_n hx hb dX8_behind_30 rfl (lv_at hl 1 rfl) ?_
        refine va_get (D := D) (ci := 8) (v := .ref (dd 2 0)) (C := RX8) (T := TX8) (N := 7) hx hb hts hi8 hown hE.1 hP 24 rfl rfl 2 (by decide) hw0 (fun _ h9 => h9) rfl dX8_behind_31 ?_
        refine va_get (D := D) (ci := 3) (v := .ref (dd 3 0)) (C := RX3) (T := TX3) (N := 8) hx hb hts hi3 hown hE.1 hP 12 rfl rfl 0 (by decide) hw1 (fun _ h9 => h9) rfl dX8_behind_34 ?_
        refine lv_iload_n hx hb dX8_behind_37 rfl (lv_at hl 2 rfl) ?_
        refine lv_iload_n hx hb dX8_behind_38 rfl (lv_at hl 3 rfl) ?_
        obtain ⟨q8, hq8, ht⟩ := it_b ht
        have hPc : va_P D vwCl (wg5 cI cZ (dd 3) q5.2.2.1) H := hP.sub [13, 14, 15, 16, 17, 18, 19, 20, 21, 22] rfl
        refine q_ri (va_runV (As := [.int p0, .int p1]) (rest := []) ⟨hx, hb, hml, hown, hts⟩ (kX5_ofPerson l D cI cZ cO (dd 3) q5.2.2.1 p0 p1 q8 hq8) (cwV 2 hts gX8_behind_X5_ofPerson rfl rfl rfl (by decide +kernel) ⟨Nat.le_of_ble_eq_true rfl, Nat.le_of_ble_eq_true rfl⟩) (q_rV (As := [.int p0, .int p1]) hE hPc (q0 := 0) (ci := 5) rfl rfl) rfl rfl hl.1 rfl (lv_room (Nat.le_of_ble_eq_true rfl)) dX8_behind_39 ⟨Nat.le_of_ble_eq_true rfl, Nat.le_of_ble_eq_true rfl⟩) (fun b9 => ?_)
        refine lv_goto (tgt := 46) hx hb dX8_behind_42 (by decide) ?_
        obtain rfl := Option.some.inj ht
        exact W.iret (v := q8) hx hb hr (fun t e1 hW => ⟨⟨_, (), rfl, ⟨rfl, trivial⟩, q_at e1 hP⟩, hS.F e1⟩) hS.2.2 dX8_behind_46
    · have ht := it_p c4 ht
      refine lv_bipush (v := (-2)) hx hb dX8_behind_18 (by decide) ?_
      obtain rfl := Option.some.inj ht
      exact W.iret (v := (-2)) hx hb hr (fun t e1 hW => ⟨⟨_, (), rfl, ⟨rfl, trivial⟩, q_at e1 hP⟩, hS.F e1⟩) hS.2.2 dX8_behind_20
  · have ht := it_p c2 ht
    refine lv_iconst (v := (-1)) hx hb dX8_behind_7 (by decide) ?_
    obtain rfl := Option.some.inj ht
    exact W.iret (v := (-1)) hx hb hr (fun t e1 hW => ⟨⟨_, (), rfl, ⟨rfl, trivial⟩, q_at e1 hP⟩, hS.F e1⟩) hS.2.2 dX8_behind_8
abbrev rmX8_reads : Room := { frames := 6, cells := 0, slots := 0, locals := 133 }
set_option maxHeartbeats 4000000 in
set_option maxRecDepth 100000 in
theorem kX8_reads (l : Launch) (D : va_G) (cI cZ cO : ClassId) (dd : Nat → Nat → Nat) (sz : Nat) (S0 : St) (S1 : St) (S2 : St) (S3 : St) (S4 : St) (p0 : Int32) (p1 : Int32) (tg : Int32 × St × St × St) (ht : xX8_reads S0 S1 p0 p1 S2 S3 S4 = some tg) : Met l yX8_reads wsX8_reads rmX8_reads (q_PM D cI cZ cO [.ref (dd 14 0), .int p0, .int p1] sz (wg5 cI cZ (dd 0) S0 ++ (wg4 cI cZ (dd 1) S1 ++ (wg3 (dd 2) (dd 3) (dd 4) S2 ++ (wg5 cI cZ (dd 3) S3 ++ (wg0 cI cZ (dd 4) S4 ++ (wg8 dd))))))) (va_Qi (fun x (_ : Unit) => x = tg.1 ∧ True) (fun _ t => va_P D vwCl (wg5 cI cZ (dd 0) S0 ++ (wg4 cI cZ (dd 1) S1 ++ (wg3 (dd 2) (dd 3) (dd 4) tg.2.1 ++ (wg5 cI cZ (dd 3) tg.2.2.1 ++ (wg0 cI cZ (dd 4) tg.2.2.2 ++ (wg8 dd)))))) t.heap) (va_A (wg5 cI cZ (dd 0) S0 ++ (wg4 cI cZ (dd 1) S1 ++ (wg3 (dd 2) (dd 3) (dd 4) S2 ++ (wg5 cI cZ (dd 3) S3 ++ (wg0 cI cZ (dd 4) S4 ++ (wg8 dd)))))) sz)) 0 0 (va_A (wg5 cI cZ (dd 0) S0 ++ (wg4 cI cZ (dd 1) S1 ++ (wg3 (dd 2) (dd 3) (dd 4) S2 ++ (wg5 cI cZ (dd 3) S3 ++ (wg0 cI cZ (dd 4) S4 ++ (wg8 dd)))))) sz) := by
  refine Met.ofW (cc := cX8_reads) (maxL := 4) (ret := (some .int)) (by decide) rfl ?_
  intro p e s m args below meth c s₁ B hml hv
  obtain ⟨rfl, hsz, hE, hP, hD0⟩ := hv
  have hx := B.exec
  have hb := B.bytes
  have hr := B.returns
  have hts := atoms_spec (ws := wsX8_reads) B.pre
  have hown : s.vm.findClass RX8 = some m.cls := findClass_of_methodNamed B.named
  have hlocks := B.notSynchronized
  have hi8 : ∀ w ∈ u_ws RX8 TX8 7, w ∈ wsX8_reads := by decide +kernel
  have hi3 : ∀ w ∈ u_ws RX3 TX3 8, w ∈ wsX8_reads := by decide +kernel
  have hw0 := hts (.fieldLink RX8 26 "HailNames" "outcome" "LHailNames$Outcome;") (by decide +kernel)
  have hw1 := hts (.fieldLink RX8 125 "HailNames$Outcome" "after" "LHailNames$Plain;") (by decide +kernel)
  subst hsz
  have hD1 := hD0.self (sz := s.heap.size)
  generalize hAe : va_A (wg5 cI cZ (dd 0) S0 ++ (wg4 cI cZ (dd 1) S1 ++ (wg3 (dd 2) (dd 3) (dd 4) S2 ++ (wg5 cI cZ (dd 3) S3 ++ (wg0 cI cZ (dd 4) S4 ++ (wg8 dd)))))) s.heap.size = A at hD1 ⊢
  have hA : ∀ q : Nat, s.heap.size ≤ q → A q := fun q h => by rw [← hAe]; exact Or.inr h
  have hS : va_S A s.heap s.heap [] := va_S.rf
  have hD : ∀ (S0 : St) (S1 : St) (S2 : St) (S3 : St) (S4 : St), va_D A (wg5 cI cZ (dd 0) S0 ++ (wg4 cI cZ (dd 1) S1 ++ (wg3 (dd 2) (dd 3) (dd 4) S2 ++ (wg5 cI cZ (dd 3) S3 ++ (wg0 cI cZ (dd 4) S4 ++ (wg8 dd)))))) := fun S0 S1 S2 S3 S4 => q_D hD1 rfl
  have hl := lv_entry ([.ref (dd 14 0), .int p0, .int p1]) (n := 4) (Nat.le_of_ble_eq_true rfl)
  rw [lg_entry_eq]
  generalize (lg_sl ([.ref (dd 14 0), .int p0, .int p1]) ++ List.replicate (4 - (lg_sl ([.ref (dd 14 0), .int p0, .int p1])).length) Slot.unset).toArray = ls at hl ⊢
  have hl : lv_has ls 4 [(0, .ref (dd 14 0)), (1, .int p0), (2, .int p1)] := hl
  have ht := (xX8_reads_s S0 S1 p0 p1 S2 S3 S4).symm.trans ht
  refine lv_iload_n hx hb dX8_reads_0 rfl (lv_at hl 1 rfl) ?_
  refine q_ri (va_runS (As := [.int p0]) (rest := []) ⟨hx, hb, hml, hown, hts⟩ (kX8_isReader l D cI cZ cO p0) (va_cwS 1 hts gX8_reads_X8_isReader rfl rfl rfl (by decide +kernel) ⟨Nat.le_of_ble_eq_true rfl, Nat.le_of_ble_eq_true rfl⟩) (q_rS hE q_nil) rfl rfl hl.1 rfl (lv_room (Nat.le_of_ble_eq_true rfl)) dX8_reads_1 ⟨Nat.le_of_ble_eq_true rfl, Nat.le_of_ble_eq_true rfl⟩) (fun b1 => ?_)
  refine lv_if_ne (tgt := 9) hx hb dX8_reads_4 (by decide) (fun c2 => ?_) (fun c2 => ?_)
  · have ht := it_n c2 ht
    refine lv_iload_n hx hb dX8_reads_9 rfl (lv_at hl 2 rfl) ?_
    refine lv_iconst (v := 0) hx hb dX8_reads_10 (by decide) ?_
    refine lv_iconst (v := 3) hx hb dX8_reads_11 (by decide) ?_
    refine q_ri (va_runS (As := [.int p1, .int 0, .int 3]) (rest := []) ⟨hx, hb, hml, hown, hts⟩ (kX8_within l D cI cZ cO p1 0 3) (va_cwS 3 hts gX8_reads_X8_within rfl rfl rfl (by decide +kernel) ⟨Nat.le_of_ble_eq_true rfl, Nat.le_of_ble_eq_true rfl⟩) (q_rS hE q_nil) rfl rfl hl.1 rfl (lv_room (Nat.le_of_ble_eq_true rfl)) dX8_reads_12 ⟨Nat.le_of_ble_eq_true rfl, Nat.le_of_ble_eq_true rfl⟩) (fun b3 => ?_)
    refine lv_if_ne (tgt := 21) hx hb dX8_reads_15 (by decide) (fun c4 => ?_) (fun c4 => ?_)
    · have ht := it_n c4 ht
      refine lv_aload_n hx hb dX8_reads_21 rfl (lv_at hl 0 rfl) ?_
      obtain ⟨q5, hq5, ht⟩ := it_b ht
      have hFc := q_freeW (hD S0 S1 S2 S3 S4) hS hA
      refine q_mi (va_runV (As := []) (rest := []) ⟨hx, hb, hml, hown, hts⟩ (kX8_followText l D cI cZ cO dd s.heap.size S0 S1 S2 S3 S4 q5 hq5) (cwV 0 hts gX8_reads_X8_followText rfl rfl rfl (by decide +kernel) ⟨Nat.le_of_ble_eq_true rfl, Nat.le_of_ble_eq_true rfl⟩) (q_mV (As := []) hE hP (hD S0 S1 S2 S3 S4) (q0 := 24) (ci := 8) rfl rfl) rfl rfl hl.1 rfl (lv_room (Nat.le_of_ble_eq_true rfl)) dX8_reads_22 ⟨Nat.le_of_ble_eq_true rfl, Nat.le_of_ble_eq_true rfl⟩) hS hFc (fun H locs b6 hP1 hk hS => ?_)
      have hP : va_P D vwCl (wg5 cI cZ (dd 0) S0 ++ (wg4 cI cZ (dd 1) S1 ++ (wg3 (dd 2) (dd 3) (dd 4) q5.2.1 ++ (wg5 cI cZ (dd 3) q5.2.2.1 ++ (wg0 cI cZ (dd 4) q5.2.2.2 ++ (wg8 dd)))))) H := hP1
      refine lv_istore_n (lv' := [(3, .int q5.1), (0, .ref (dd 14 0)), (1, .int p0), (2, .int p1)]) hx hb dX8_reads_25 rfl hl (by decide) rfl (fun ls hl => ?_)
      refine lv_iload_n hx hb dX8_reads_26 rfl (lv_at hl 0 rfl) ?_
      refine lv_if_ne (tgt := 45) hx hb dX8_reads_27 (by decide) (fun c7 => ?_) (fun c7 => ?_)
      · have ht := it_n c7 ht
        refine lv_iload_n hx hb dX8_reads_45 rfl (lv_at hl 0 rfl) ?_
        obtain rfl := Option.some.inj ht
        exact W.iret (v := q5.1) hx hb hr (fun t e1 hW => ⟨⟨_, (), rfl, ⟨rfl, trivial⟩, q_at e1 hP⟩, hS.F e1⟩) hS.2.2 dX8_reads_46
      · have ht := it_p c7 ht
        refine lv_aload_n hx hb dX8_reads_30 rfl (lv_at hl 1 rfl) ?_
        refine va_get (D := D) (ci := 8) (v := .ref (dd 2 0)) (C := RX8) (T := TX8) (N := 7) hx hb hts hi8 hown hE.1 hP 24 rfl rfl 2 (by decide) hw0 (fun _ h9 => h9) rfl dX8_reads_31 ?_
        refine va_get (D := D) (ci := 3) (v := .ref (dd 3 0)) (C := RX3) (T := TX3) (N := 8) hx hb hts hi3 hown hE.1 hP 12 rfl rfl 0 (by decide) hw1 (fun _ h9 => h9) rfl dX8_reads_34 ?_
        refine lv_iload_n hx hb dX8_reads_37 rfl (lv_at hl 2 rfl) ?_
        refine lv_iload_n hx hb dX8_reads_38 rfl (lv_at hl 3 rfl) ?_
        obtain ⟨q8, hq8, ht⟩ := it_b ht
        have hPc : va_P D vwCl (wg5 cI cZ (dd 3) q5.2.2.1) H := hP.sub [13, 14, 15, 16, 17, 18, 19, 20, 21, 22] rfl
        refine q_ri (va_runV (As := [.int p0, .int p1]) (rest := []) ⟨hx, hb, hml, hown, hts⟩ (kX5_ofReader l D cI cZ cO (dd 3) q5.2.2.1 p0 p1 q8 hq8) (cwV 2 hts gX8_reads_X5_ofReader rfl rfl rfl (by decide +kernel) ⟨Nat.le_of_ble_eq_true rfl, Nat.le_of_ble_eq_true rfl⟩) (q_rV (As := [.int p0, .int p1]) hE hPc (q0 := 0) (ci := 5) rfl rfl) rfl rfl hl.1 rfl (lv_room (Nat.le_of_ble_eq_true rfl)) dX8_reads_39 ⟨Nat.le_of_ble_eq_true rfl, Nat.le_of_ble_eq_true rfl⟩) (fun b9 => ?_)
        refine lv_goto (tgt := 46) hx hb dX8_reads_42 (by decide) ?_
        obtain rfl := Option.some.inj ht
        exact W.iret (v := q8) hx hb hr (fun t e1 hW => ⟨⟨_, (), rfl, ⟨rfl, trivial⟩, q_at e1 hP⟩, hS.F e1⟩) hS.2.2 dX8_reads_46
    · have ht := it_p c4 ht
      refine lv_bipush (v := (-2)) hx hb dX8_reads_18 (by decide) ?_
      obtain rfl := Option.some.inj ht
      exact W.iret (v := (-2)) hx hb hr (fun t e1 hW => ⟨⟨_, (), rfl, ⟨rfl, trivial⟩, q_at e1 hP⟩, hS.F e1⟩) hS.2.2 dX8_reads_20
  · have ht := it_p c2 ht
    refine lv_iconst (v := (-1)) hx hb dX8_reads_7 (by decide) ?_
    obtain rfl := Option.some.inj ht
    exact W.iret (v := (-1)) hx hb hr (fun t e1 hW => ⟨⟨_, (), rfl, ⟨rfl, trivial⟩, q_at e1 hP⟩, hS.F e1⟩) hS.2.2 dX8_reads_8
abbrev rmX8_yard : Room := { frames := 6, cells := 0, slots := 0, locals := 133 }
set_option maxHeartbeats 4000000 in
set_option maxRecDepth 100000 in
theorem kX8_yard (l : Launch) (D : va_G) (cI cZ cO : ClassId) (dd : Nat → Nat → Nat) (sz : Nat) (S0 : St) (S1 : St) (S2 : St) (S3 : St) (S4 : St) (p0 : Int32) (tg : Int32 × St × St × St) (ht : xX8_yard S0 S1 p0 S2 S3 S4 = some tg) : Met l yX8_yard wsX8_yard rmX8_yard (q_PM D cI cZ cO [.ref (dd 14 0), .int p0] sz (wg5 cI cZ (dd 0) S0 ++ (wg4 cI cZ (dd 1) S1 ++ (wg3 (dd 2) (dd 3) (dd 4) S2 ++ (wg5 cI cZ (dd 3) S3 ++ (wg0 cI cZ (dd 4) S4 ++ (wg8 dd))))))) (va_Qi (fun x (_ : Unit) => x = tg.1 ∧ True) (fun _ t => va_P D vwCl (wg5 cI cZ (dd 0) S0 ++ (wg4 cI cZ (dd 1) S1 ++ (wg3 (dd 2) (dd 3) (dd 4) tg.2.1 ++ (wg5 cI cZ (dd 3) tg.2.2.1 ++ (wg0 cI cZ (dd 4) tg.2.2.2 ++ (wg8 dd)))))) t.heap) (va_A (wg5 cI cZ (dd 0) S0 ++ (wg4 cI cZ (dd 1) S1 ++ (wg3 (dd 2) (dd 3) (dd 4) S2 ++ (wg5 cI cZ (dd 3) S3 ++ (wg0 cI cZ (dd 4) S4 ++ (wg8 dd)))))) sz)) 0 0 (va_A (wg5 cI cZ (dd 0) S0 ++ (wg4 cI cZ (dd 1) S1 ++ (wg3 (dd 2) (dd 3) (dd 4) S2 ++ (wg5 cI cZ (dd 3) S3 ++ (wg0 cI cZ (dd 4) S4 ++ (wg8 dd)))))) sz) := by
  refine Met.ofW (cc := cX8_yard) (maxL := 3) (ret := (some .int)) (by decide) rfl ?_
  intro p e s m args below meth c s₁ B hml hv
  obtain ⟨rfl, hsz, hE, hP, hD0⟩ := hv
  have hx := B.exec
  have hb := B.bytes
  have hr := B.returns
  have hts := atoms_spec (ws := wsX8_yard) B.pre
  have hown : s.vm.findClass RX8 = some m.cls := findClass_of_methodNamed B.named
  have hlocks := B.notSynchronized
  have hi8 : ∀ w ∈ u_ws RX8 TX8 7, w ∈ wsX8_yard := by decide +kernel
  have hi3 : ∀ w ∈ u_ws RX3 TX3 8, w ∈ wsX8_yard := by decide +kernel
  have hi5 : ∀ w ∈ u_ws RX5 TX5 11, w ∈ wsX8_yard := by decide +kernel
  have hw0 := hts (.fieldLink RX8 26 "HailNames" "outcome" "LHailNames$Outcome;") (by decide +kernel)
  have hw1 := hts (.fieldLink RX8 125 "HailNames$Outcome" "after" "LHailNames$Plain;") (by decide +kernel)
  have hw2 := hts (.fieldLink RX8 135 "HailNames$Plain" "second" "I") (by decide +kernel)
  subst hsz
  have hD1 := hD0.self (sz := s.heap.size)
  generalize hAe : va_A (wg5 cI cZ (dd 0) S0 ++ (wg4 cI cZ (dd 1) S1 ++ (wg3 (dd 2) (dd 3) (dd 4) S2 ++ (wg5 cI cZ (dd 3) S3 ++ (wg0 cI cZ (dd 4) S4 ++ (wg8 dd)))))) s.heap.size = A at hD1 ⊢
  have hA : ∀ q : Nat, s.heap.size ≤ q → A q := fun q h => by rw [← hAe]; exact Or.inr h
  have hS : va_S A s.heap s.heap [] := va_S.rf
  have hD : ∀ (S0 : St) (S1 : St) (S2 : St) (S3 : St) (S4 : St), va_D A (wg5 cI cZ (dd 0) S0 ++ (wg4 cI cZ (dd 1) S1 ++ (wg3 (dd 2) (dd 3) (dd 4) S2 ++ (wg5 cI cZ (dd 3) S3 ++ (wg0 cI cZ (dd 4) S4 ++ (wg8 dd)))))) := fun S0 S1 S2 S3 S4 => q_D hD1 rfl
  have hl := lv_entry ([.ref (dd 14 0), .int p0]) (n := 3) (Nat.le_of_ble_eq_true rfl)
  rw [lg_entry_eq]
  generalize (lg_sl ([.ref (dd 14 0), .int p0]) ++ List.replicate (3 - (lg_sl ([.ref (dd 14 0), .int p0])).length) Slot.unset).toArray = ls at hl ⊢
  have hl : lv_has ls 3 [(0, .ref (dd 14 0)), (1, .int p0)] := hl
  have ht := (xX8_yard_s S0 S1 p0 S2 S3 S4).symm.trans ht
  refine lv_iload_n hx hb dX8_yard_0 rfl (lv_at hl 1 rfl) ?_
  refine lv_iconst (v := 0) hx hb dX8_yard_1 (by decide) ?_
  refine lv_iconst (v := 3) hx hb dX8_yard_2 (by decide) ?_
  refine q_ri (va_runS (As := [.int p0, .int 0, .int 3]) (rest := []) ⟨hx, hb, hml, hown, hts⟩ (kX8_within l D cI cZ cO p0 0 3) (va_cwS 3 hts gX8_yard_X8_within rfl rfl rfl (by decide +kernel) ⟨Nat.le_of_ble_eq_true rfl, Nat.le_of_ble_eq_true rfl⟩) (q_rS hE q_nil) rfl rfl hl.1 rfl (lv_room (Nat.le_of_ble_eq_true rfl)) dX8_yard_3 ⟨Nat.le_of_ble_eq_true rfl, Nat.le_of_ble_eq_true rfl⟩) (fun b1 => ?_)
  refine lv_if_ne (tgt := 12) hx hb dX8_yard_6 (by decide) (fun c2 => ?_) (fun c2 => ?_)
  · have ht := it_n c2 ht
    refine lv_aload_n hx hb dX8_yard_12 rfl (lv_at hl 0 rfl) ?_
    obtain ⟨q3, hq3, ht⟩ := it_b ht
    have hFc := q_freeW (hD S0 S1 S2 S3 S4) hS hA
    refine q_mi (va_runV (As := []) (rest := []) ⟨hx, hb, hml, hown, hts⟩ (kX8_followText l D cI cZ cO dd s.heap.size S0 S1 S2 S3 S4 q3 hq3) (cwV 0 hts gX8_yard_X8_followText rfl rfl rfl (by decide +kernel) ⟨Nat.le_of_ble_eq_true rfl, Nat.le_of_ble_eq_true rfl⟩) (q_mV (As := []) hE hP (hD S0 S1 S2 S3 S4) (q0 := 24) (ci := 8) rfl rfl) rfl rfl hl.1 rfl (lv_room (Nat.le_of_ble_eq_true rfl)) dX8_yard_13 ⟨Nat.le_of_ble_eq_true rfl, Nat.le_of_ble_eq_true rfl⟩) hS hFc (fun H locs b4 hP1 hk hS => ?_)
    have hP : va_P D vwCl (wg5 cI cZ (dd 0) S0 ++ (wg4 cI cZ (dd 1) S1 ++ (wg3 (dd 2) (dd 3) (dd 4) q3.2.1 ++ (wg5 cI cZ (dd 3) q3.2.2.1 ++ (wg0 cI cZ (dd 4) q3.2.2.2 ++ (wg8 dd)))))) H := hP1
    refine lv_istore_n (lv' := [(2, .int q3.1), (0, .ref (dd 14 0)), (1, .int p0)]) hx hb dX8_yard_16 rfl hl (by decide) rfl (fun ls hl => ?_)
    refine lv_iload_n hx hb dX8_yard_17 rfl (lv_at hl 0 rfl) ?_
    refine lv_if_eq (tgt := 23) hx hb dX8_yard_18 (by decide) (fun c5 => ?_) (fun c5 => ?_)
    · have ht := it_p c5 ht
      refine lv_iload_n hx hb dX8_yard_23 rfl (lv_at hl 2 rfl) ?_
      by_cases c6 : p0 = 0
      · have ht := it_p c6 ht
        refine lv_tableIn (tgt := 52) hx hb dX8_yard_24 (by rw [c6]; decide) (by rw [c6]; decide) (by rw [c6]; rfl) (by decide) ?_
        refine lv_aload_n hx hb dX8_yard_52 rfl (lv_at hl 1 rfl) ?_
        refine va_get (D := D) (ci := 8) (v := .ref (dd 2 0)) (C := RX8) (T := TX8) (N := 7) hx hb hts hi8 hown hE.1 hP 24 rfl rfl 2 (by decide) hw0 (fun _ h9 => h9) rfl dX8_yard_53 ?_
        refine va_get (D := D) (ci := 3) (v := .ref (dd 3 0)) (C := RX3) (T := TX3) (N := 8) hx hb hts hi3 hown hE.1 hP 12 rfl rfl 0 (by decide) hw1 (fun _ h9 => h9) rfl dX8_yard_56 ?_
        refine va_get (D := D) (ci := 5) (v := .int (q3.2.2.1 10 0)) (C := RX5) (T := TX5) (N := 11) hx hb hts hi5 hown hE.1 hP 13 rfl rfl 10 (by decide) hw2 (fun _ h9 => h9) rfl dX8_yard_59 ?_
        obtain rfl := Option.some.inj ht
        exact W.iret (v := q3.2.2.1 10 0) hx hb hr (fun t e1 hW => ⟨⟨_, (), rfl, ⟨rfl, trivial⟩, q_at e1 hP⟩, hS.F e1⟩) hS.2.2 dX8_yard_62
      have ht := it_n c6 ht
      by_cases c7 : p0 = 1
      · have ht := it_p c7 ht
        refine lv_tableIn (tgt := 63) hx hb dX8_yard_24 (by rw [c7]; decide) (by rw [c7]; decide) (by rw [c7]; rfl) (by decide) ?_
        refine lv_aload_n hx hb dX8_yard_63 rfl (lv_at hl 1 rfl) ?_
        refine va_get (D := D) (ci := 8) (v := .ref (dd 2 0)) (C := RX8) (T := TX8) (N := 7) hx hb hts hi8 hown hE.1 hP 24 rfl rfl 2 (by decide) hw0 (fun _ h9 => h9) rfl dX8_yard_64 ?_
        refine va_get (D := D) (ci := 3) (v := .ref (dd 3 0)) (C := RX3) (T := TX3) (N := 8) hx hb hts hi3 hown hE.1 hP 12 rfl rfl 0 (by decide) hw1 (fun _ h9 => h9) rfl dX8_yard_67 ?_
        obtain ⟨q8, hq8, ht⟩ := it_b ht
        have hPc : va_P D vwCl (wg5 cI cZ (dd 3) q3.2.2.1) H := hP.sub [13, 14, 15, 16, 17, 18, 19, 20, 21, 22] rfl
        refine q_ri (va_runV (As := []) (rest := []) ⟨hx, hb, hml, hown, hts⟩ (kX5_lyingStones l D cI cZ cO (dd 3) q3.2.2.1 q8 hq8) (cwV 0 hts gX8_yard_X5_lyingStones rfl rfl rfl (by decide +kernel) ⟨Nat.le_of_ble_eq_true rfl, Nat.le_of_ble_eq_true rfl⟩) (q_rV (As := []) hE hPc (q0 := 0) (ci := 5) rfl rfl) rfl rfl hl.1 rfl (lv_room (Nat.le_of_ble_eq_true rfl)) dX8_yard_70 ⟨Nat.le_of_ble_eq_true rfl, Nat.le_of_ble_eq_true rfl⟩) (fun b9 => ?_)
        obtain rfl := Option.some.inj ht
        exact W.iret (v := q8) hx hb hr (fun t e1 hW => ⟨⟨_, (), rfl, ⟨rfl, trivial⟩, q_at e1 hP⟩, hS.F e1⟩) hS.2.2 dX8_yard_73
      have ht := it_n c7 ht
      by_cases c10 : p0 = 2
      · have ht := it_p c10 ht
        refine lv_tableIn (tgt := 74) hx hb dX8_yard_24 (by rw [c10]; decide) (by rw [c10]; decide) (by rw [c10]; rfl) (by decide) ?_
        refine lv_aload_n hx hb dX8_yard_74 rfl (lv_at hl 1 rfl) ?_
        refine va_get (D := D) (ci := 8) (v := .ref (dd 2 0)) (C := RX8) (T := TX8) (N := 7) hx hb hts hi8 hown hE.1 hP 24 rfl rfl 2 (by decide) hw0 (fun _ h9 => h9) rfl dX8_yard_75 ?_
        refine va_get (D := D) (ci := 3) (v := .ref (dd 3 0)) (C := RX3) (T := TX3) (N := 8) hx hb hts hi3 hown hE.1 hP 12 rfl rfl 0 (by decide) hw1 (fun _ h9 => h9) rfl dX8_yard_78 ?_
        obtain ⟨q11, hq11, ht⟩ := it_b ht
        have hPc : va_P D vwCl (wg5 cI cZ (dd 3) q3.2.2.1) H := hP.sub [13, 14, 15, 16, 17, 18, 19, 20, 21, 22] rfl
        refine q_ri (va_runV (As := []) (rest := []) ⟨hx, hb, hml, hown, hts⟩ (kX5_figuresAdded l D cI cZ cO (dd 3) q3.2.2.1 q11 hq11) (cwV 0 hts gX8_yard_X5_figuresAdded rfl rfl rfl (by decide +kernel) ⟨Nat.le_of_ble_eq_true rfl, Nat.le_of_ble_eq_true rfl⟩) (q_rV (As := []) hE hPc (q0 := 0) (ci := 5) rfl rfl) rfl rfl hl.1 rfl (lv_room (Nat.le_of_ble_eq_true rfl)) dX8_yard_81 ⟨Nat.le_of_ble_eq_true rfl, Nat.le_of_ble_eq_true rfl⟩) (fun b12 => ?_)
        obtain rfl := Option.some.inj ht
        exact W.iret (v := q11) hx hb hr (fun t e1 hW => ⟨⟨_, (), rfl, ⟨rfl, trivial⟩, q_at e1 hP⟩, hS.F e1⟩) hS.2.2 dX8_yard_84
      have ht := it_n c10 ht
      refine lv_tableOut (tgt := 85) hx hb dX8_yard_24 (by have n0 := lv_neT c6 (show (0 : Int32).toInt = 0 by decide); have n1 := lv_neT c7 (show (1 : Int32).toInt = 1 by decide); have n2 := lv_neT c10 (show (2 : Int32).toInt = 2 by decide); omega) (by decide) ?_
      refine lv_aload_n hx hb dX8_yard_85 rfl (lv_at hl 1 rfl) ?_
      refine va_get (D := D) (ci := 8) (v := .ref (dd 2 0)) (C := RX8) (T := TX8) (N := 7) hx hb hts hi8 hown hE.1 hP 24 rfl rfl 2 (by decide) hw0 (fun _ h9 => h9) rfl dX8_yard_86 ?_
      refine va_get (D := D) (ci := 3) (v := .ref (dd 3 0)) (C := RX3) (T := TX3) (N := 8) hx hb hts hi3 hown hE.1 hP 12 rfl rfl 0 (by decide) hw1 (fun _ h9 => h9) rfl dX8_yard_89 ?_
      obtain ⟨q13, hq13, ht⟩ := it_b ht
      have hPc : va_P D vwCl (wg5 cI cZ (dd 3) q3.2.2.1) H := hP.sub [13, 14, 15, 16, 17, 18, 19, 20, 21, 22] rfl
      refine q_ri (va_runV (As := []) (rest := []) ⟨hx, hb, hml, hown, hts⟩ (kX5_mostNoted l D cI cZ cO (dd 3) q3.2.2.1 q13 hq13) (cwV 0 hts gX8_yard_X5_mostNoted rfl rfl rfl (by decide +kernel) ⟨Nat.le_of_ble_eq_true rfl, Nat.le_of_ble_eq_true rfl⟩) (q_rV (As := []) hE hPc (q0 := 0) (ci := 5) rfl rfl) rfl rfl hl.1 rfl (lv_room (Nat.le_of_ble_eq_true rfl)) dX8_yard_92 ⟨Nat.le_of_ble_eq_true rfl, Nat.le_of_ble_eq_true rfl⟩) (fun b14 => ?_)
      obtain rfl := Option.some.inj ht
      exact W.iret (v := q13) hx hb hr (fun t e1 hW => ⟨⟨_, (), rfl, ⟨rfl, trivial⟩, q_at e1 hP⟩, hS.F e1⟩) hS.2.2 dX8_yard_95
    · have ht := it_n c5 ht
      refine lv_iload_n hx hb dX8_yard_21 rfl (lv_at hl 0 rfl) ?_
      obtain rfl := Option.some.inj ht
      exact W.iret (v := q3.1) hx hb hr (fun t e1 hW => ⟨⟨_, (), rfl, ⟨rfl, trivial⟩, q_at e1 hP⟩, hS.F e1⟩) hS.2.2 dX8_yard_22
  · have ht := it_p c2 ht
    refine lv_bipush (v := (-2)) hx hb dX8_yard_9 (by decide) ?_
    obtain rfl := Option.some.inj ht
    exact W.iret (v := (-2)) hx hb hr (fun t e1 hW => ⟨⟨_, (), rfl, ⟨rfl, trivial⟩, q_at e1 hP⟩, hS.F e1⟩) hS.2.2 dX8_yard_11
abbrev rmX8_lost : Room := { frames := 6, cells := 0, slots := 0, locals := 133 }
set_option maxHeartbeats 4000000 in
set_option maxRecDepth 100000 in
theorem kX8_lost (l : Launch) (D : va_G) (cI cZ cO : ClassId) (dd : Nat → Nat → Nat) (sz : Nat) (S0 : St) (S1 : St) (S2 : St) (S3 : St) (S4 : St) (p0 : Int32) (tg : Int32 × St × St × St) (ht : xX8_lost S0 S1 p0 S2 S3 S4 = some tg) : Met l yX8_lost wsX8_lost rmX8_lost (q_PM D cI cZ cO [.ref (dd 14 0), .int p0] sz (wg5 cI cZ (dd 0) S0 ++ (wg4 cI cZ (dd 1) S1 ++ (wg3 (dd 2) (dd 3) (dd 4) S2 ++ (wg5 cI cZ (dd 3) S3 ++ (wg0 cI cZ (dd 4) S4 ++ (wg8 dd))))))) (va_Qi (fun x (_ : Unit) => x = tg.1 ∧ True) (fun _ t => va_P D vwCl (wg5 cI cZ (dd 0) S0 ++ (wg4 cI cZ (dd 1) S1 ++ (wg3 (dd 2) (dd 3) (dd 4) tg.2.1 ++ (wg5 cI cZ (dd 3) tg.2.2.1 ++ (wg0 cI cZ (dd 4) tg.2.2.2 ++ (wg8 dd)))))) t.heap) (va_A (wg5 cI cZ (dd 0) S0 ++ (wg4 cI cZ (dd 1) S1 ++ (wg3 (dd 2) (dd 3) (dd 4) S2 ++ (wg5 cI cZ (dd 3) S3 ++ (wg0 cI cZ (dd 4) S4 ++ (wg8 dd)))))) sz)) 0 0 (va_A (wg5 cI cZ (dd 0) S0 ++ (wg4 cI cZ (dd 1) S1 ++ (wg3 (dd 2) (dd 3) (dd 4) S2 ++ (wg5 cI cZ (dd 3) S3 ++ (wg0 cI cZ (dd 4) S4 ++ (wg8 dd)))))) sz) := by
  refine Met.ofW (cc := cX8_lost) (maxL := 3) (ret := (some .int)) (by decide) rfl ?_
  intro p e s m args below meth c s₁ B hml hv
  obtain ⟨rfl, hsz, hE, hP, hD0⟩ := hv
  have hx := B.exec
  have hb := B.bytes
  have hr := B.returns
  have hts := atoms_spec (ws := wsX8_lost) B.pre
  have hown : s.vm.findClass RX8 = some m.cls := findClass_of_methodNamed B.named
  have hlocks := B.notSynchronized
  have hi8 : ∀ w ∈ u_ws RX8 TX8 7, w ∈ wsX8_lost := by decide +kernel
  have hi3 : ∀ w ∈ u_ws RX3 TX3 8, w ∈ wsX8_lost := by decide +kernel
  have hw0 := hts (.fieldLink RX8 26 "HailNames" "outcome" "LHailNames$Outcome;") (by decide +kernel)
  have hw1 := hts (.fieldLink RX8 150 "HailNames$Outcome" "lossPerson" "I") (by decide +kernel)
  have hw2 := hts (.fieldLink RX8 147 "HailNames$Outcome" "lossAct" "I") (by decide +kernel)
  subst hsz
  have hD1 := hD0.self (sz := s.heap.size)
  generalize hAe : va_A (wg5 cI cZ (dd 0) S0 ++ (wg4 cI cZ (dd 1) S1 ++ (wg3 (dd 2) (dd 3) (dd 4) S2 ++ (wg5 cI cZ (dd 3) S3 ++ (wg0 cI cZ (dd 4) S4 ++ (wg8 dd)))))) s.heap.size = A at hD1 ⊢
  have hA : ∀ q : Nat, s.heap.size ≤ q → A q := fun q h => by rw [← hAe]; exact Or.inr h
  have hS : va_S A s.heap s.heap [] := va_S.rf
  have hD : ∀ (S0 : St) (S1 : St) (S2 : St) (S3 : St) (S4 : St), va_D A (wg5 cI cZ (dd 0) S0 ++ (wg4 cI cZ (dd 1) S1 ++ (wg3 (dd 2) (dd 3) (dd 4) S2 ++ (wg5 cI cZ (dd 3) S3 ++ (wg0 cI cZ (dd 4) S4 ++ (wg8 dd)))))) := fun S0 S1 S2 S3 S4 => q_D hD1 rfl
  have hl := lv_entry ([.ref (dd 14 0), .int p0]) (n := 3) (Nat.le_of_ble_eq_true rfl)
  rw [lg_entry_eq]
  generalize (lg_sl ([.ref (dd 14 0), .int p0]) ++ List.replicate (3 - (lg_sl ([.ref (dd 14 0), .int p0])).length) Slot.unset).toArray = ls at hl ⊢
  have hl : lv_has ls 3 [(0, .ref (dd 14 0)), (1, .int p0)] := hl
  have ht := (xX8_lost_s S0 S1 p0 S2 S3 S4).symm.trans ht
  refine lv_iload_n hx hb dX8_lost_0 rfl (lv_at hl 1 rfl) ?_
  refine lv_iconst (v := 0) hx hb dX8_lost_1 (by decide) ?_
  refine lv_iconst (v := 1) hx hb dX8_lost_2 (by decide) ?_
  refine q_ri (va_runS (As := [.int p0, .int 0, .int 1]) (rest := []) ⟨hx, hb, hml, hown, hts⟩ (kX8_within l D cI cZ cO p0 0 1) (va_cwS 3 hts gX8_lost_X8_within rfl rfl rfl (by decide +kernel) ⟨Nat.le_of_ble_eq_true rfl, Nat.le_of_ble_eq_true rfl⟩) (q_rS hE q_nil) rfl rfl hl.1 rfl (lv_room (Nat.le_of_ble_eq_true rfl)) dX8_lost_3 ⟨Nat.le_of_ble_eq_true rfl, Nat.le_of_ble_eq_true rfl⟩) (fun b1 => ?_)
  refine lv_if_ne (tgt := 12) hx hb dX8_lost_6 (by decide) (fun c2 => ?_) (fun c2 => ?_)
  · have ht := it_n c2 ht
    refine lv_aload_n hx hb dX8_lost_12 rfl (lv_at hl 0 rfl) ?_
    obtain ⟨q3, hq3, ht⟩ := it_b ht
    have hFc := q_freeW (hD S0 S1 S2 S3 S4) hS hA
    refine q_mi (va_runV (As := []) (rest := []) ⟨hx, hb, hml, hown, hts⟩ (kX8_followText l D cI cZ cO dd s.heap.size S0 S1 S2 S3 S4 q3 hq3) (cwV 0 hts gX8_lost_X8_followText rfl rfl rfl (by decide +kernel) ⟨Nat.le_of_ble_eq_true rfl, Nat.le_of_ble_eq_true rfl⟩) (q_mV (As := []) hE hP (hD S0 S1 S2 S3 S4) (q0 := 24) (ci := 8) rfl rfl) rfl rfl hl.1 rfl (lv_room (Nat.le_of_ble_eq_true rfl)) dX8_lost_13 ⟨Nat.le_of_ble_eq_true rfl, Nat.le_of_ble_eq_true rfl⟩) hS hFc (fun H locs b4 hP1 hk hS => ?_)
    have hP : va_P D vwCl (wg5 cI cZ (dd 0) S0 ++ (wg4 cI cZ (dd 1) S1 ++ (wg3 (dd 2) (dd 3) (dd 4) q3.2.1 ++ (wg5 cI cZ (dd 3) q3.2.2.1 ++ (wg0 cI cZ (dd 4) q3.2.2.2 ++ (wg8 dd)))))) H := hP1
    refine lv_istore_n (lv' := [(2, .int q3.1), (0, .ref (dd 14 0)), (1, .int p0)]) hx hb dX8_lost_16 rfl hl (by decide) rfl (fun ls hl => ?_)
    refine lv_iload_n hx hb dX8_lost_17 rfl (lv_at hl 0 rfl) ?_
    refine lv_if_eq (tgt := 23) hx hb dX8_lost_18 (by decide) (fun c5 => ?_) (fun c5 => ?_)
    · have ht := it_p c5 ht
      refine lv_iload_n hx hb dX8_lost_23 rfl (lv_at hl 2 rfl) ?_
      refine lv_if_ne (tgt := 37) hx hb dX8_lost_24 (by decide) (fun c6 => ?_) (fun c6 => ?_)
      · have ht := it_n c6 ht
        refine lv_aload_n hx hb dX8_lost_37 rfl (lv_at hl 1 rfl) ?_
        refine va_get (D := D) (ci := 8) (v := .ref (dd 2 0)) (C := RX8) (T := TX8) (N := 7) hx hb hts hi8 hown hE.1 hP 24 rfl rfl 2 (by decide) hw0 (fun _ h9 => h9) rfl dX8_lost_38 ?_
        refine va_get (D := D) (ci := 3) (v := .int (q3.2.1 7 0)) (C := RX3) (T := TX3) (N := 8) hx hb hts hi3 hown hE.1 hP 12 rfl rfl 7 (by decide) hw1 (fun _ h9 => h9) rfl dX8_lost_41 ?_
        obtain rfl := Option.some.inj ht
        exact W.iret (v := q3.2.1 7 0) hx hb hr (fun t e1 hW => ⟨⟨_, (), rfl, ⟨rfl, trivial⟩, q_at e1 hP⟩, hS.F e1⟩) hS.2.2 dX8_lost_44
      · have ht := it_p c6 ht
        refine lv_aload_n hx hb dX8_lost_27 rfl (lv_at hl 1 rfl) ?_
        refine va_get (D := D) (ci := 8) (v := .ref (dd 2 0)) (C := RX8) (T := TX8) (N := 7) hx hb hts hi8 hown hE.1 hP 24 rfl rfl 2 (by decide) hw0 (fun _ h9 => h9) rfl dX8_lost_28 ?_
        refine va_get (D := D) (ci := 3) (v := .int (q3.2.1 6 0)) (C := RX3) (T := TX3) (N := 8) hx hb hts hi3 hown hE.1 hP 12 rfl rfl 6 (by decide) hw2 (fun _ h9 => h9) rfl dX8_lost_31 ?_
        refine lv_goto (tgt := 44) hx hb dX8_lost_34 (by decide) ?_
        obtain rfl := Option.some.inj ht
        exact W.iret (v := q3.2.1 6 0) hx hb hr (fun t e1 hW => ⟨⟨_, (), rfl, ⟨rfl, trivial⟩, q_at e1 hP⟩, hS.F e1⟩) hS.2.2 dX8_lost_44
    · have ht := it_n c5 ht
      refine lv_iload_n hx hb dX8_lost_21 rfl (lv_at hl 0 rfl) ?_
      obtain rfl := Option.some.inj ht
      exact W.iret (v := q3.1) hx hb hr (fun t e1 hW => ⟨⟨_, (), rfl, ⟨rfl, trivial⟩, q_at e1 hP⟩, hS.F e1⟩) hS.2.2 dX8_lost_22
  · have ht := it_p c2 ht
    refine lv_bipush (v := (-2)) hx hb dX8_lost_9 (by decide) ?_
    obtain rfl := Option.some.inj ht
    exact W.iret (v := (-2)) hx hb hr (fun t e1 hW => ⟨⟨_, (), rfl, ⟨rfl, trivial⟩, q_at e1 hP⟩, hS.F e1⟩) hS.2.2 dX8_lost_11
abbrev rmX8_done : Room := { frames := 6, cells := 0, slots := 0, locals := 133 }
set_option maxHeartbeats 4000000 in
set_option maxRecDepth 100000 in
theorem kX8_done (l : Launch) (D : va_G) (cI cZ cO : ClassId) (dd : Nat → Nat → Nat) (sz : Nat) (S0 : St) (S1 : St) (S2 : St) (S3 : St) (S4 : St) (tg : Int32 × St × St × St × St × St) (ht : xX8_done S0 S1 S2 S3 S4 = some tg) : Met l yX8_done wsX8_done rmX8_done (q_PM D cI cZ cO [.ref (dd 14 0)] sz (wg5 cI cZ (dd 0) S0 ++ (wg4 cI cZ (dd 1) S1 ++ (wg3 (dd 2) (dd 3) (dd 4) S2 ++ (wg5 cI cZ (dd 3) S3 ++ (wg0 cI cZ (dd 4) S4 ++ (wg8 dd))))))) (va_Qi (fun x (_ : Unit) => x = tg.1 ∧ True) (fun _ t => va_P D vwCl (wg5 cI cZ (dd 0) tg.2.1 ++ (wg4 cI cZ (dd 1) tg.2.2.1 ++ (wg3 (dd 2) (dd 3) (dd 4) tg.2.2.2.1 ++ (wg5 cI cZ (dd 3) tg.2.2.2.2.1 ++ (wg0 cI cZ (dd 4) tg.2.2.2.2.2 ++ (wg8 dd)))))) t.heap) (va_A (wg5 cI cZ (dd 0) S0 ++ (wg4 cI cZ (dd 1) S1 ++ (wg3 (dd 2) (dd 3) (dd 4) S2 ++ (wg5 cI cZ (dd 3) S3 ++ (wg0 cI cZ (dd 4) S4 ++ (wg8 dd)))))) sz)) 0 0 (va_A (wg5 cI cZ (dd 0) S0 ++ (wg4 cI cZ (dd 1) S1 ++ (wg3 (dd 2) (dd 3) (dd 4) S2 ++ (wg5 cI cZ (dd 3) S3 ++ (wg0 cI cZ (dd 4) S4 ++ (wg8 dd)))))) sz) := by
  refine Met.ofW (cc := cX8_done) (maxL := 2) (ret := (some .int)) (by decide) rfl ?_
  intro p e s m args below meth c s₁ B hml hv
  obtain ⟨rfl, hsz, hE, hP, hD0⟩ := hv
  have hx := B.exec
  have hb := B.bytes
  have hr := B.returns
  have hts := atoms_spec (ws := wsX8_done) B.pre
  have hown : s.vm.findClass RX8 = some m.cls := findClass_of_methodNamed B.named
  have hlocks := B.notSynchronized
  have hi8 : ∀ w ∈ u_ws RX8 TX8 7, w ∈ wsX8_done := by decide +kernel
  have hi3 : ∀ w ∈ u_ws RX3 TX3 8, w ∈ wsX8_done := by decide +kernel
  have hw0 := hts (.fieldLink RX8 10 "HailNames" "now" "LHailNames$Plain;") (by decide +kernel)
  have hw1 := hts (.fieldLink RX8 26 "HailNames" "outcome" "LHailNames$Outcome;") (by decide +kernel)
  have hw2 := hts (.fieldLink RX8 125 "HailNames$Outcome" "after" "LHailNames$Plain;") (by decide +kernel)
  have hw3 := hts (.fieldLink RX8 19 "HailNames" "pad" "LHailNames$Pad;") (by decide +kernel)
  have hw4 := hts (.fieldLink RX8 157 "HailNames$Outcome" "acts" "I") (by decide +kernel)
  subst hsz
  have hD1 := hD0.self (sz := s.heap.size)
  generalize hAe : va_A (wg5 cI cZ (dd 0) S0 ++ (wg4 cI cZ (dd 1) S1 ++ (wg3 (dd 2) (dd 3) (dd 4) S2 ++ (wg5 cI cZ (dd 3) S3 ++ (wg0 cI cZ (dd 4) S4 ++ (wg8 dd)))))) s.heap.size = A at hD1 ⊢
  have hA : ∀ q : Nat, s.heap.size ≤ q → A q := fun q h => by rw [← hAe]; exact Or.inr h
  have hS : va_S A s.heap s.heap [] := va_S.rf
  have hD : ∀ (S0 : St) (S1 : St) (S2 : St) (S3 : St) (S4 : St), va_D A (wg5 cI cZ (dd 0) S0 ++ (wg4 cI cZ (dd 1) S1 ++ (wg3 (dd 2) (dd 3) (dd 4) S2 ++ (wg5 cI cZ (dd 3) S3 ++ (wg0 cI cZ (dd 4) S4 ++ (wg8 dd)))))) := fun S0 S1 S2 S3 S4 => q_D hD1 rfl
  have hl := lv_entry ([.ref (dd 14 0)]) (n := 2) (Nat.le_of_ble_eq_true rfl)
  rw [lg_entry_eq]
  generalize (lg_sl ([.ref (dd 14 0)]) ++ List.replicate (2 - (lg_sl ([.ref (dd 14 0)])).length) Slot.unset).toArray = ls at hl ⊢
  have hl : lv_has ls 2 [(0, .ref (dd 14 0))] := hl
  have ht := (xX8_done_s S0 S1 S2 S3 S4).symm.trans ht
  refine lv_aload_n hx hb dX8_done_0 rfl (lv_at hl 0 rfl) ?_
  obtain ⟨q1, hq1, ht⟩ := it_b ht
  have hFc := q_freeW (hD S0 S1 S2 S3 S4) hS hA
  refine q_mi (va_runV (As := []) (rest := []) ⟨hx, hb, hml, hown, hts⟩ (kX8_followText l D cI cZ cO dd s.heap.size S0 S1 S2 S3 S4 q1 hq1) (cwV 0 hts gX8_done_X8_followText rfl rfl rfl (by decide +kernel) ⟨Nat.le_of_ble_eq_true rfl, Nat.le_of_ble_eq_true rfl⟩) (q_mV (As := []) hE hP (hD S0 S1 S2 S3 S4) (q0 := 24) (ci := 8) rfl rfl) rfl rfl hl.1 rfl (lv_room (Nat.le_of_ble_eq_true rfl)) dX8_done_1 ⟨Nat.le_of_ble_eq_true rfl, Nat.le_of_ble_eq_true rfl⟩) hS hFc (fun H locs b2 hP1 hk hS => ?_)
  have hP : va_P D vwCl (wg5 cI cZ (dd 0) S0 ++ (wg4 cI cZ (dd 1) S1 ++ (wg3 (dd 2) (dd 3) (dd 4) q1.2.1 ++ (wg5 cI cZ (dd 3) q1.2.2.1 ++ (wg0 cI cZ (dd 4) q1.2.2.2 ++ (wg8 dd)))))) H := hP1
  refine lv_istore_n (lv' := [(1, .int q1.1), (0, .ref (dd 14 0))]) hx hb dX8_done_4 rfl hl (by decide) rfl (fun ls hl => ?_)
  refine lv_iload_n hx hb dX8_done_5 rfl (lv_at hl 0 rfl) ?_
  refine lv_if_eq (tgt := 11) hx hb dX8_done_6 (by decide) (fun c3 => ?_) (fun c3 => ?_)
  · have ht := it_p c3 ht
    refine lv_aload_n hx hb dX8_done_11 rfl (lv_at hl 1 rfl) ?_
    refine va_get (D := D) (ci := 8) (v := .ref (dd 0 0)) (C := RX8) (T := TX8) (N := 7) hx hb hts hi8 hown hE.1 hP 24 rfl rfl 0 (by decide) hw0 (fun _ h9 => h9) rfl dX8_done_12 ?_
    refine lv_aload_n hx hb dX8_done_15 rfl (lv_at hl 1 rfl) ?_
    refine va_get (D := D) (ci := 8) (v := .ref (dd 2 0)) (C := RX8) (T := TX8) (N := 7) hx hb hts hi8 hown hE.1 hP 24 rfl rfl 2 (by decide) hw1 (fun _ h9 => h9) rfl dX8_done_16 ?_
    refine va_get (D := D) (ci := 3) (v := .ref (dd 3 0)) (C := RX3) (T := TX3) (N := 8) hx hb hts hi3 hown hE.1 hP 12 rfl rfl 0 (by decide) hw2 (fun _ h9 => h9) rfl dX8_done_19 ?_
    obtain ⟨q4, hq4, ht⟩ := it_b ht
    have hPc : va_P D vwCl (wg5 cI cZ (dd 0) S0 ++ (wg5 cI cZ (dd 3) q1.2.2.1)) H := hP.sub [0, 1, 2, 3, 4, 5, 6, 7, 8, 9, 13, 14, 15, 16, 17, 18, 19, 20, 21, 22] rfl
    have hDc : va_D A (wg5 cI cZ (dd 0) S0 ++ (wg5 cI cZ (dd 3) q1.2.2.1)) := ((hD S0 S1 q1.2.1 q1.2.2.1 q1.2.2.2)).sub [0, 1, 2, 3, 4, 5, 6, 7, 8, 9, 13, 14, 15, 16, 17, 18, 19, 20, 21, 22] (by decide) rfl
    have hFc := va_free (wc := (wg5 cI cZ (dd 0) S0 ++ (wg5 cI cZ (dd 3) q1.2.2.1))) (hD S0 S1 q1.2.1 q1.2.2.1 q1.2.2.2) hS hA [0, 1, 2, 3, 4, 5, 6, 7, 8, 9, 13, 14, 15, 16, 17, 18, 19, 20, 21, 22] rfl
    refine q_mv (va_runV (As := [.ref (dd 3 0)]) (rest := []) ⟨hx, hb, hml, hown, hts⟩ (kX5_copyFrom l D cI cZ cO (dd 0) (dd 3) H.size S0 q1.2.2.1 q4 hq4) (cwV 1 hts gX8_done_X5_copyFrom rfl rfl rfl (by decide +kernel) ⟨Nat.le_of_ble_eq_true rfl, Nat.le_of_ble_eq_true rfl⟩) (q_mV (As := [.ref (dd 3 0)]) hE hPc hDc (q0 := 0) (ci := 5) rfl rfl) rfl rfl hl.1 rfl (lv_room (Nat.le_of_ble_eq_true rfl)) dX8_done_22 ⟨Nat.le_of_ble_eq_true rfl, Nat.le_of_ble_eq_true rfl⟩) hS hFc (fun H locs hP1 hk hS => ?_)
    have hP : va_P D vwCl (wg5 cI cZ (dd 0) q4 ++ (wg4 cI cZ (dd 1) S1 ++ (wg3 (dd 2) (dd 3) (dd 4) q1.2.1 ++ (wg5 cI cZ (dd 3) q1.2.2.1 ++ (wg0 cI cZ (dd 4) q1.2.2.2 ++ (wg8 dd)))))) H := (q_join (wr := (wg4 cI cZ (dd 1) S1 ++ (wg3 (dd 2) (dd 3) (dd 4) q1.2.1 ++ (wg0 cI cZ (dd 4) q1.2.2.2 ++ (wg8 dd))))) hP (hD S0 S1 q1.2.1 q1.2.2.1 q1.2.2.2) [0, 1, 2, 3, 4, 5, 6, 7, 8, 9, 13, 14, 15, 16, 17, 18, 19, 20, 21, 22] [10, 11, 12, 23, 24] rfl rfl (by decide) (by decide) hk hFc hP1 hDc rfl).sub [5, 6, 7, 8, 9, 10, 11, 12, 13, 14, 0, 1, 2, 15, 16, 17, 18, 19, 20, 21, 22, 23, 24, 3, 4] rfl
    refine lv_aload_n hx hb dX8_done_25 rfl (lv_at hl 1 rfl) ?_
    refine va_get (D := D) (ci := 8) (v := .ref (dd 1 0)) (C := RX8) (T := TX8) (N := 7) hx hb hts hi8 hown hE.1 hP 24 rfl rfl 1 (by decide) hw3 (fun _ h9 => h9) rfl dX8_done_26 ?_
    obtain ⟨q5, hq5, ht⟩ := it_b ht
    have hPc : va_P D vwCl (wg4 cI cZ (dd 1) S1) H := hP.sub [10, 11] rfl
    have hDc : va_D A (wg4 cI cZ (dd 1) S1) := ((hD q4 S1 q1.2.1 q1.2.2.1 q1.2.2.2)).sub [10, 11] (by decide) rfl
    have hFc := va_free (wc := (wg4 cI cZ (dd 1) S1)) (hD q4 S1 q1.2.1 q1.2.2.1 q1.2.2.2) hS hA [10, 11] rfl
    refine q_mi (va_runV (As := []) (rest := []) ⟨hx, hb, hml, hown, hts⟩ (kX4_clear l D cI cZ cO (dd 1) H.size S1 q5 hq5) (cwV 0 hts gX8_done_X4_clear rfl rfl rfl (by decide +kernel) ⟨Nat.le_of_ble_eq_true rfl, Nat.le_of_ble_eq_true rfl⟩) (q_mV (As := []) hE hPc hDc (q0 := 0) (ci := 4) rfl rfl) rfl rfl hl.1 rfl (lv_room (Nat.le_of_ble_eq_true rfl)) dX8_done_29 ⟨Nat.le_of_ble_eq_true rfl, Nat.le_of_ble_eq_true rfl⟩) hS hFc (fun H locs b6 hP1 hk hS => ?_)
    have hP : va_P D vwCl (wg5 cI cZ (dd 0) q4 ++ (wg4 cI cZ (dd 1) q5.2 ++ (wg3 (dd 2) (dd 3) (dd 4) q1.2.1 ++ (wg5 cI cZ (dd 3) q1.2.2.1 ++ (wg0 cI cZ (dd 4) q1.2.2.2 ++ (wg8 dd)))))) H := (q_join (wr := (wg5 cI cZ (dd 0) q4 ++ (wg3 (dd 2) (dd 3) (dd 4) q1.2.1 ++ (wg5 cI cZ (dd 3) q1.2.2.1 ++ (wg0 cI cZ (dd 4) q1.2.2.2 ++ (wg8 dd)))))) hP (hD q4 S1 q1.2.1 q1.2.2.1 q1.2.2.2) [10, 11] [0, 1, 2, 3, 4, 5, 6, 7, 8, 9, 12, 13, 14, 15, 16, 17, 18, 19, 20, 21, 22, 23, 24] rfl rfl (by decide) (by decide) hk hFc hP1 hDc rfl).sub [0, 1, 2, 3, 4, 5, 6, 7, 8, 9, 23, 24, 10, 11, 12, 13, 14, 15, 16, 17, 18, 19, 20, 21, 22] rfl
    refine lv_pop hx hb dX8_done_32 rfl ?_
    refine lv_aload_n hx hb dX8_done_33 rfl (lv_at hl 1 rfl) ?_
    refine va_get (D := D) (ci := 8) (v := .ref (dd 2 0)) (C := RX8) (T := TX8) (N := 7) hx hb hts hi8 hown hE.1 hP 24 rfl rfl 2 (by decide) hw1 (fun _ h9 => h9) rfl dX8_done_34 ?_
    refine va_get (D := D) (ci := 3) (v := .int (q1.2.1 2 0)) (C := RX3) (T := TX3) (N := 8) hx hb hts hi3 hown hE.1 hP 12 rfl rfl 2 (by decide) hw4 (fun _ h9 => h9) rfl dX8_done_37 ?_
    obtain rfl := Option.some.inj ht
    exact W.iret (v := q1.2.1 2 0) hx hb hr (fun t e1 hW => ⟨⟨_, (), rfl, ⟨rfl, trivial⟩, q_at e1 hP⟩, hS.F e1⟩) hS.2.2 dX8_done_40
  · have ht := it_n c3 ht
    refine lv_iload_n hx hb dX8_done_9 rfl (lv_at hl 0 rfl) ?_
    obtain rfl := Option.some.inj ht
    exact W.iret (v := q1.1) hx hb hr (fun t e1 hW => ⟨⟨_, (), rfl, ⟨rfl, trivial⟩, q_at e1 hP⟩, hS.F e1⟩) hS.2.2 dX8_done_10
abbrev rmX8_plan : Room := { frames := 4, cells := 0, slots := 0, locals := 95 }
set_option maxHeartbeats 4000000 in
set_option maxRecDepth 100000 in
theorem kX8_plan (l : Launch) (D : va_G) (cI cZ cO : ClassId) (dd : Nat → Nat → Nat) (sz : Nat) (S0 : St) (S5 : St) (p0 : Int32) (p1 : Int32) (tg : Int32 × St) (ht : xX8_plan S0 p0 p1 S5 = some tg) : Met l yX8_plan wsX8_plan rmX8_plan (q_PM D cI cZ cO [.ref (dd 14 0), .int p0, .int p1] sz (wg5 cI cZ (dd 0) S0 ++ (wg6 cI cZ (dd 5) S5 ++ (wg8 dd)))) (va_Qi (fun x (_ : Unit) => x = tg.1 ∧ True) (fun _ t => va_P D vwCl (wg5 cI cZ (dd 0) S0 ++ (wg6 cI cZ (dd 5) tg.2 ++ (wg8 dd))) t.heap) (va_A (wg5 cI cZ (dd 0) S0 ++ (wg6 cI cZ (dd 5) S5 ++ (wg8 dd))) sz)) 0 0 (va_A (wg5 cI cZ (dd 0) S0 ++ (wg6 cI cZ (dd 5) S5 ++ (wg8 dd))) sz) := by
  refine Met.ofW (cc := cX8_plan) (maxL := 4) (ret := (some .int)) (by decide) rfl ?_
  intro p e s m args below meth c s₁ B hml hv
  obtain ⟨rfl, hsz, hE, hP, hD0⟩ := hv
  have hx := B.exec
  have hb := B.bytes
  have hr := B.returns
  have hts := atoms_spec (ws := wsX8_plan) B.pre
  have hown : s.vm.findClass RX8 = some m.cls := findClass_of_methodNamed B.named
  have hlocks := B.notSynchronized
  have hi8 : ∀ w ∈ u_ws RX8 TX8 7, w ∈ wsX8_plan := by decide +kernel
  have hw0 := hts (.fieldLink RX8 33 "HailNames" "planner" "LHailNames$Planner;") (by decide +kernel)
  have hw1 := hts (.fieldLink RX8 10 "HailNames" "now" "LHailNames$Plain;") (by decide +kernel)
  subst hsz
  have hD1 := hD0.self (sz := s.heap.size)
  generalize hAe : va_A (wg5 cI cZ (dd 0) S0 ++ (wg6 cI cZ (dd 5) S5 ++ (wg8 dd))) s.heap.size = A at hD1 ⊢
  have hA : ∀ q : Nat, s.heap.size ≤ q → A q := fun q h => by rw [← hAe]; exact Or.inr h
  have hS : va_S A s.heap s.heap [] := va_S.rf
  have hD : ∀ (S0 : St) (S5 : St), va_D A (wg5 cI cZ (dd 0) S0 ++ (wg6 cI cZ (dd 5) S5 ++ (wg8 dd))) := fun S0 S5 => q_D hD1 rfl
  have hl := lv_entry ([.ref (dd 14 0), .int p0, .int p1]) (n := 4) (Nat.le_of_ble_eq_true rfl)
  rw [lg_entry_eq]
  generalize (lg_sl ([.ref (dd 14 0), .int p0, .int p1]) ++ List.replicate (4 - (lg_sl ([.ref (dd 14 0), .int p0, .int p1])).length) Slot.unset).toArray = ls at hl ⊢
  have hl : lv_has ls 4 [(0, .ref (dd 14 0)), (1, .int p0), (2, .int p1)] := hl
  have ht := (xX8_plan_s S0 p0 p1 S5).symm.trans ht
  refine lv_iload_n hx hb dX8_plan_0 rfl (lv_at hl 1 rfl) ?_
  refine q_ri (va_runS (As := [.int p0]) (rest := []) ⟨hx, hb, hml, hown, hts⟩ (kX8_isReader l D cI cZ cO p0) (va_cwS 1 hts gX8_plan_X8_isReader rfl rfl rfl (by decide +kernel) ⟨Nat.le_of_ble_eq_true rfl, Nat.le_of_ble_eq_true rfl⟩) (q_rS hE q_nil) rfl rfl hl.1 rfl (lv_room (Nat.le_of_ble_eq_true rfl)) dX8_plan_1 ⟨Nat.le_of_ble_eq_true rfl, Nat.le_of_ble_eq_true rfl⟩) (fun b1 => ?_)
  refine lv_if_ne (tgt := 9) hx hb dX8_plan_4 (by decide) (fun c2 => ?_) (fun c2 => ?_)
  · have ht := it_n c2 ht
    refine lv_iload_n hx hb dX8_plan_9 rfl (lv_at hl 2 rfl) ?_
    refine lv_iconst (v := 0) hx hb dX8_plan_10 (by decide) ?_
    refine lv_iconst (v := 1) hx hb dX8_plan_11 (by decide) ?_
    refine q_ri (va_runS (As := [.int p1, .int 0, .int 1]) (rest := []) ⟨hx, hb, hml, hown, hts⟩ (kX8_within l D cI cZ cO p1 0 1) (va_cwS 3 hts gX8_plan_X8_within rfl rfl rfl (by decide +kernel) ⟨Nat.le_of_ble_eq_true rfl, Nat.le_of_ble_eq_true rfl⟩) (q_rS hE q_nil) rfl rfl hl.1 rfl (lv_room (Nat.le_of_ble_eq_true rfl)) dX8_plan_12 ⟨Nat.le_of_ble_eq_true rfl, Nat.le_of_ble_eq_true rfl⟩) (fun b3 => ?_)
    refine lv_if_ne (tgt := 21) hx hb dX8_plan_15 (by decide) (fun c4 => ?_) (fun c4 => ?_)
    · have ht := it_n c4 ht
      refine lv_aload_n hx hb dX8_plan_21 rfl (lv_at hl 0 rfl) ?_
      refine va_get (D := D) (ci := 8) (v := .ref (dd 5 0)) (C := RX8) (T := TX8) (N := 7) hx hb hts hi8 hown hE.1 hP 12 rfl rfl 3 (by decide) hw0 (fun _ h9 => h9) rfl dX8_plan_22 ?_
      refine lv_aload_n hx hb dX8_plan_25 rfl (lv_at hl 0 rfl) ?_
      refine va_get (D := D) (ci := 8) (v := .ref (dd 0 0)) (C := RX8) (T := TX8) (N := 7) hx hb hts hi8 hown hE.1 hP 12 rfl rfl 0 (by decide) hw1 (fun _ h9 => h9) rfl dX8_plan_26 ?_
      refine lv_iload_n hx hb dX8_plan_29 rfl (lv_at hl 1 rfl) ?_
      obtain ⟨q5, hq5, ht⟩ := it_b ht
      have hPc : va_P D vwCl (wg6 cI cZ (dd 5) S5 ++ (wg5 cI cZ (dd 0) S0)) s.heap := hP.sub [10, 11, 0, 1, 2, 3, 4, 5, 6, 7, 8, 9] rfl
      have hDc : va_D A (wg6 cI cZ (dd 5) S5 ++ (wg5 cI cZ (dd 0) S0)) := ((hD S0 S5)).sub [10, 11, 0, 1, 2, 3, 4, 5, 6, 7, 8, 9] (by decide) rfl
      have hFc := va_free (wc := (wg6 cI cZ (dd 5) S5 ++ (wg5 cI cZ (dd 0) S0))) (hD S0 S5) hS hA [10, 11, 0, 1, 2, 3, 4, 5, 6, 7, 8, 9] rfl
      refine q_mi (va_runV (As := [.ref (dd 0 0), .int p0]) (rest := []) ⟨hx, hb, hml, hown, hts⟩ (kX6_bestStones l D cI cZ cO (dd 5) (dd 0) s.heap.size S5 S0 p0 q5 hq5) (cwV 2 hts gX8_plan_X6_bestStones rfl rfl rfl (by decide +kernel) ⟨Nat.le_of_ble_eq_true rfl, Nat.le_of_ble_eq_true rfl⟩) (q_mV (As := [.ref (dd 0 0), .int p0]) hE hPc hDc (q0 := 0) (ci := 6) rfl rfl) rfl rfl hl.1 rfl (lv_room (Nat.le_of_ble_eq_true rfl)) dX8_plan_30 ⟨Nat.le_of_ble_eq_true rfl, Nat.le_of_ble_eq_true rfl⟩) hS hFc (fun H locs b6 hP1 hk hS => ?_)
      have hP : va_P D vwCl (wg5 cI cZ (dd 0) S0 ++ (wg6 cI cZ (dd 5) q5.2 ++ (wg8 dd))) H := (q_join (wr := (wg8 dd)) hP (hD S0 S5) [10, 11, 0, 1, 2, 3, 4, 5, 6, 7, 8, 9] [12] rfl rfl (by decide) (by decide) hk hFc hP1 hDc rfl).sub [3, 4, 5, 6, 7, 8, 9, 10, 11, 12, 1, 2, 0] rfl
      refine lv_istore_n (lv' := [(3, .int q5.1), (0, .ref (dd 14 0)), (1, .int p0), (2, .int p1)]) hx hb dX8_plan_33 rfl hl (by decide) rfl (fun ls hl => ?_)
      refine lv_iload_n hx hb dX8_plan_34 rfl (lv_at hl 3 rfl) ?_
      refine lv_if_ne (tgt := 49) hx hb dX8_plan_35 (by decide) (fun c7 => ?_) (fun c7 => ?_)
      · have ht := it_n c7 ht
        refine lv_iload_n hx hb dX8_plan_49 rfl (lv_at hl 0 rfl) ?_
        obtain rfl := Option.some.inj ht
        exact W.iret (v := q5.1) hx hb hr (fun t e1 hW => ⟨⟨_, (), rfl, ⟨rfl, trivial⟩, q_at e1 hP⟩, hS.F e1⟩) hS.2.2 dX8_plan_50
      · have ht := it_p c7 ht
        refine lv_aload_n hx hb dX8_plan_38 rfl (lv_at hl 1 rfl) ?_
        refine va_get (D := D) (ci := 8) (v := .ref (dd 0 0)) (C := RX8) (T := TX8) (N := 7) hx hb hts hi8 hown hE.1 hP 12 rfl rfl 0 (by decide) hw1 (fun _ h9 => h9) rfl dX8_plan_39 ?_
        refine lv_iload_n hx hb dX8_plan_42 rfl (lv_at hl 0 rfl) ?_
        obtain ⟨q8, hq8, ht⟩ := it_b ht
        have hPc : va_P D vwCl (wg5 cI cZ (dd 0) S0) H := hP.sub [0, 1, 2, 3, 4, 5, 6, 7, 8, 9] rfl
        refine q_ri (va_runV (As := [.int q5.1]) (rest := []) ⟨hx, hb, hml, hown, hts⟩ (kX5_figuresOf l D cI cZ cO (dd 0) S0 q5.1 q8 hq8) (cwV 1 hts gX8_plan_X5_figuresOf rfl rfl rfl (by decide +kernel) ⟨Nat.le_of_ble_eq_true rfl, Nat.le_of_ble_eq_true rfl⟩) (q_rV (As := [.int q5.1]) hE hPc (q0 := 0) (ci := 5) rfl rfl) rfl rfl hl.1 rfl (lv_room (Nat.le_of_ble_eq_true rfl)) dX8_plan_43 ⟨Nat.le_of_ble_eq_true rfl, Nat.le_of_ble_eq_true rfl⟩) (fun b9 => ?_)
        refine lv_goto (tgt := 50) hx hb dX8_plan_46 (by decide) ?_
        obtain rfl := Option.some.inj ht
        exact W.iret (v := q8) hx hb hr (fun t e1 hW => ⟨⟨_, (), rfl, ⟨rfl, trivial⟩, q_at e1 hP⟩, hS.F e1⟩) hS.2.2 dX8_plan_50
    · have ht := it_p c4 ht
      refine lv_bipush (v := (-2)) hx hb dX8_plan_18 (by decide) ?_
      obtain rfl := Option.some.inj ht
      exact W.iret (v := (-2)) hx hb hr (fun t e1 hW => ⟨⟨_, (), rfl, ⟨rfl, trivial⟩, q_at e1 hP⟩, hS.F e1⟩) hS.2.2 dX8_plan_20
  · have ht := it_p c2 ht
    refine lv_iconst (v := (-1)) hx hb dX8_plan_7 (by decide) ?_
    obtain rfl := Option.some.inj ht
    exact W.iret (v := (-1)) hx hb hr (fun t e1 hW => ⟨⟨_, (), rfl, ⟨rfl, trivial⟩, q_at e1 hP⟩, hS.F e1⟩) hS.2.2 dX8_plan_8
abbrev rmX8_fewestCells : Room := { frames := 3, cells := 0, slots := 0, locals := 59 }
set_option maxHeartbeats 4000000 in
set_option maxRecDepth 100000 in
theorem kX8_fewestCells (l : Launch) (D : va_G) (cI cZ cO : ClassId) (dd : Nat → Nat → Nat) (S0 : St) (p0 : Int32) (tg : Int32) (ht : xX8_fewestCells S0 p0 = some tg) : Met l yX8_fewestCells wsX8_fewestCells rmX8_fewestCells (q_PR D cI cZ cO [.ref (dd 14 0), .int p0] (wg5 cI cZ (dd 0) S0 ++ (wg8 dd))) (vp_Si (fun x => x = tg ∧ True)) 0 0 (fun _ => False) := by
  refine Met.ofW (cc := cX8_fewestCells) (maxL := 4) (ret := (some .int)) (by decide) rfl ?_
  intro p e s m args below meth c s₁ B hml hv
  obtain ⟨rfl, hE, hP⟩ := hv
  have hx := B.exec
  have hb := B.bytes
  have hr := B.returns
  have hts := atoms_spec (ws := wsX8_fewestCells) B.pre
  have hown : s.vm.findClass RX8 = some m.cls := findClass_of_methodNamed B.named
  have hlocks := B.notSynchronized
  have hi8 : ∀ w ∈ u_ws RX8 TX8 7, w ∈ wsX8_fewestCells := by decide +kernel
  have hw0 := hts (.fieldLink RX8 10 "HailNames" "now" "LHailNames$Plain;") (by decide +kernel)
  have hl := lv_entry ([.ref (dd 14 0), .int p0]) (n := 4) (Nat.le_of_ble_eq_true rfl)
  rw [lg_entry_eq]
  generalize (lg_sl ([.ref (dd 14 0), .int p0]) ++ List.replicate (4 - (lg_sl ([.ref (dd 14 0), .int p0])).length) Slot.unset).toArray = ls at hl ⊢
  have hl : lv_has ls 4 [(0, .ref (dd 14 0)), (1, .int p0)] := hl
  have ht := (xX8_fewestCells_s S0 p0).symm.trans ht
  obtain ⟨Q, hQ⟩ : ∃ Q, Q = MQ below (vp_Si (fun x => x = tg ∧ True)) ([.ref (dd 14 0), .int p0] : List Value).toArray s 0 0 (fun _ => False) := ⟨_, rfl⟩
  rw [← hQ]
  have L6 : ∀ (n : Nat) (x2 : Int32) (x3 : Int32) (ls : Array Slot) (_ : lv_has ls 4 [(0, .ref (dd 14 0)), (1, .int p0), (2, .int x2), (3, .int x3)]) (_ : xX8_fewestCells_h6 S0 p0 n x2 x3 = some tg), W p l e (headSpec wsX8_fewestCells rmX8_fewestCells).room s m ([.ref (dd 14 0), .int p0] : List Value).toArray below meth c s.heap [] 0 0 Q (F0 m 6 ls []) := by
    intro n
    induction n with
    | zero =>
      intro x2 x3 ls hl ht
      exact it_z ht
    | succ n6 ih6 =>
      intro x2 x3 ls hl ht
      have ht := (xX8_fewestCells_h6_s S0 p0 n6 x2 x3).symm.trans ht
      refine lv_iload_n hx hb dX8_fewestCells_6 rfl (lv_at hl 3 rfl) ?_
      refine lv_sipush (v := 4096) hx hb dX8_fewestCells_7 (by decide +kernel) ?_
      refine lv_icmp_ge (tgt := 44) hx hb dX8_fewestCells_10 (by decide) (fun c1 => ?_) (fun c1 => ?_)
      · have ht := it_p c1 ht
        refine lv_iload_n hx hb dX8_fewestCells_44 rfl (lv_at hl 2 rfl) ?_
        subst hQ
        have ht := Option.some.inj ht
        exact W.iret (v := x2) hx hb hr (fun t e1 hW => ⟨_, rfl, ⟨ht, trivial⟩, e1⟩) (fun q h => absurd h List.not_mem_nil) dX8_fewestCells_45
      · have ht := it_n c1 ht
        refine lv_iload_n hx hb dX8_fewestCells_13 rfl (lv_at hl 3 rfl) ?_
        refine q_ri (va_runS (As := [.int x3]) (rest := []) ⟨hx, hb, hml, hown, hts⟩ (kJ6_bitCount_0f7a4 l D cI cZ cO x3) (va_cwS 1 hts gX8_fewestCells_J6_bitCount_0f7a4 rfl rfl rfl (by decide +kernel) ⟨Nat.le_of_ble_eq_true rfl, Nat.le_of_ble_eq_true rfl⟩) (q_rS hE q_nil) rfl rfl hl.1 rfl (lv_room (Nat.le_of_ble_eq_true rfl)) dX8_fewestCells_14 ⟨Nat.le_of_ble_eq_true rfl, Nat.le_of_ble_eq_true rfl⟩) (fun b2 => ?_)
        refine lv_iload_n hx hb dX8_fewestCells_17 rfl (lv_at hl 2 rfl) ?_
        refine q_ri (va_runS (As := [.int x2]) (rest := [.int (xJ6_bitCount_0f7a4 x3)]) ⟨hx, hb, hml, hown, hts⟩ (kJ6_bitCount_0f7a4 l D cI cZ cO x2) (va_cwS 1 hts gX8_fewestCells_J6_bitCount_0f7a4 rfl rfl rfl (by decide +kernel) ⟨Nat.le_of_ble_eq_true rfl, Nat.le_of_ble_eq_true rfl⟩) (q_rS hE q_nil) rfl rfl hl.1 rfl (lv_room (Nat.le_of_ble_eq_true rfl)) dX8_fewestCells_18 ⟨Nat.le_of_ble_eq_true rfl, Nat.le_of_ble_eq_true rfl⟩) (fun b3 => ?_)
        refine lv_icmp_ge (tgt := 38) hx hb dX8_fewestCells_21 (by decide) (fun c4 => ?_) (fun c4 => ?_)
        · have ht := it_p c4 ht
          refine lv_iinc (v := x3 + 1) (lv' := [(3, .int (x3 + 1)), (0, .ref (dd 14 0)), (1, .int p0), (2, .int x2)]) hx hb dX8_fewestCells_38 hl (k := 3) rfl rfl (by decide) rfl (fun ls hl => ?_)
          refine lv_goto (tgt := 6) hx hb dX8_fewestCells_41 (by decide) ?_
          exact ih6 x2 (x3 + 1) ls (lv_sub hl [1, 2, 3, 0] rfl) ht
        · have ht := it_n c4 ht
          refine lv_aload_n hx hb dX8_fewestCells_24 rfl (lv_at hl 0 rfl) ?_
          refine va_get (D := D) (ci := 8) (v := .ref (dd 0 0)) (C := RX8) (T := TX8) (N := 7) hx hb hts hi8 hown hE.1 hP 10 rfl rfl 0 (by decide) hw0 (fun _ h9 => h9) rfl dX8_fewestCells_25 ?_
          refine lv_iload_n hx hb dX8_fewestCells_28 rfl (lv_at hl 3 rfl) ?_
          refine lv_iload_n hx hb dX8_fewestCells_29 rfl (lv_at hl 1 rfl) ?_
          obtain ⟨q5, hq5, ht⟩ := it_b ht
          have hPc : va_P D vwCl (wg5 cI cZ (dd 0) S0) s.heap := hP.sub [0, 1, 2, 3, 4, 5, 6, 7, 8, 9] rfl
          refine q_ri (va_runV (As := [.int x3, .int p0]) (rest := []) ⟨hx, hb, hml, hown, hts⟩ (kX5_allNear l D cI cZ cO (dd 0) S0 x3 p0 q5 hq5) (cwV 2 hts gX8_fewestCells_X5_allNear rfl rfl rfl (by decide +kernel) ⟨Nat.le_of_ble_eq_true rfl, Nat.le_of_ble_eq_true rfl⟩) (q_rV (As := [.int x3, .int p0]) hE hPc (q0 := 0) (ci := 5) rfl rfl) rfl rfl hl.1 rfl (lv_room (Nat.le_of_ble_eq_true rfl)) dX8_fewestCells_30 ⟨Nat.le_of_ble_eq_true rfl, Nat.le_of_ble_eq_true rfl⟩) (fun b6 => ?_)
          refine lv_if_eq (tgt := 38) hx hb dX8_fewestCells_33 (by decide) (fun c7 => ?_) (fun c7 => ?_)
          · have ht := it_p c7 ht
            refine lv_iinc (v := x3 + 1) (lv' := [(3, .int (x3 + 1)), (0, .ref (dd 14 0)), (1, .int p0), (2, .int x2)]) hx hb dX8_fewestCells_38 hl (k := 3) rfl rfl (by decide) rfl (fun ls hl => ?_)
            refine lv_goto (tgt := 6) hx hb dX8_fewestCells_41 (by decide) ?_
            exact ih6 x2 (x3 + 1) ls (lv_sub hl [1, 2, 3, 0] rfl) ht
          · have ht := it_n c7 ht
            refine lv_iload_n hx hb dX8_fewestCells_36 rfl (lv_at hl 3 rfl) ?_
            refine lv_istore_n (lv' := [(2, .int x3), (0, .ref (dd 14 0)), (1, .int p0), (3, .int x3)]) hx hb dX8_fewestCells_37 rfl hl (by decide) rfl (fun ls hl => ?_)
            refine lv_iinc (v := x3 + 1) (lv' := [(3, .int (x3 + 1)), (2, .int x3), (0, .ref (dd 14 0)), (1, .int p0)]) hx hb dX8_fewestCells_38 hl (k := 3) rfl rfl (by decide) rfl (fun ls hl => ?_)
            refine lv_goto (tgt := 6) hx hb dX8_fewestCells_41 (by decide) ?_
            exact ih6 x3 (x3 + 1) ls (lv_sub hl [2, 3, 1, 0] rfl) ht
  refine lv_sipush (v := 4095) hx hb dX8_fewestCells_0 (by decide +kernel) ?_
  refine lv_istore_n (lv' := [(2, .int 4095), (0, .ref (dd 14 0)), (1, .int p0)]) hx hb dX8_fewestCells_3 rfl hl (by decide) rfl (fun ls hl => ?_)
  refine lv_iconst (v := 0) hx hb dX8_fewestCells_4 (by decide) ?_
  refine lv_istore_n (lv' := [(3, .int 0), (2, .int 4095), (0, .ref (dd 14 0)), (1, .int p0)]) hx hb dX8_fewestCells_5 rfl hl (by decide) rfl (fun ls hl => ?_)
  exact L6 5000 4095 0 ls (lv_sub hl [2, 3, 1, 0] rfl) ht
abbrev rmX8_cover : Room := { frames := 4, cells := 0, slots := 0, locals := 82 }
set_option maxHeartbeats 4000000 in
set_option maxRecDepth 100000 in
theorem kX8_cover (l : Launch) (D : va_G) (cI cZ cO : ClassId) (dd : Nat → Nat → Nat) (S0 : St) (p0 : Int32) (p1 : Int32) (tg : Int32) (ht : xX8_cover S0 p0 p1 = some tg) : Met l yX8_cover wsX8_cover rmX8_cover (q_PR D cI cZ cO [.ref (dd 14 0), .int p0, .int p1] (wg5 cI cZ (dd 0) S0 ++ (wg8 dd))) (vp_Si (fun x => x = tg ∧ True)) 0 0 (fun _ => False) := by
  refine Met.ofW (cc := cX8_cover) (maxL := 4) (ret := (some .int)) (by decide) rfl ?_
  intro p e s m args below meth c s₁ B hml hv
  obtain ⟨rfl, hE, hP⟩ := hv
  have hx := B.exec
  have hb := B.bytes
  have hr := B.returns
  have hts := atoms_spec (ws := wsX8_cover) B.pre
  have hown : s.vm.findClass RX8 = some m.cls := findClass_of_methodNamed B.named
  have hlocks := B.notSynchronized
  have hl := lv_entry ([.ref (dd 14 0), .int p0, .int p1]) (n := 4) (Nat.le_of_ble_eq_true rfl)
  rw [lg_entry_eq]
  generalize (lg_sl ([.ref (dd 14 0), .int p0, .int p1]) ++ List.replicate (4 - (lg_sl ([.ref (dd 14 0), .int p0, .int p1])).length) Slot.unset).toArray = ls at hl ⊢
  have hl : lv_has ls 4 [(0, .ref (dd 14 0)), (1, .int p0), (2, .int p1)] := hl
  have ht := (xX8_cover_s S0 p0 p1).symm.trans ht
  refine lv_iload_n hx hb dX8_cover_0 rfl (lv_at hl 1 rfl) ?_
  refine lv_iconst (v := 0) hx hb dX8_cover_1 (by decide) ?_
  refine lv_bipush (v := 11) hx hb dX8_cover_2 (by decide) ?_
  refine q_ri (va_runS (As := [.int p0, .int 0, .int 11]) (rest := []) ⟨hx, hb, hml, hown, hts⟩ (kX8_within l D cI cZ cO p0 0 11) (va_cwS 3 hts gX8_cover_X8_within rfl rfl rfl (by decide +kernel) ⟨Nat.le_of_ble_eq_true rfl, Nat.le_of_ble_eq_true rfl⟩) (q_rS hE q_nil) rfl rfl hl.1 rfl (lv_room (Nat.le_of_ble_eq_true rfl)) dX8_cover_4 ⟨Nat.le_of_ble_eq_true rfl, Nat.le_of_ble_eq_true rfl⟩) (fun b1 => ?_)
  refine lv_if_eq (tgt := 19) hx hb dX8_cover_7 (by decide) (fun c2 => ?_) (fun c2 => ?_)
  · have ht := it_p c2 ht
    refine lv_bipush (v := (-2)) hx hb dX8_cover_19 (by decide) ?_
    have ht := Option.some.inj ht
    exact W.iret (v := (-2)) hx hb hr (fun t e1 hW => ⟨_, rfl, ⟨ht, trivial⟩, e1⟩) (fun q h => absurd h List.not_mem_nil) dX8_cover_21
  · have ht := it_n c2 ht
    refine lv_iload_n hx hb dX8_cover_10 rfl (lv_at hl 2 rfl) ?_
    refine lv_iconst (v := 0) hx hb dX8_cover_11 (by decide) ?_
    refine lv_iconst (v := 1) hx hb dX8_cover_12 (by decide) ?_
    refine q_ri (va_runS (As := [.int p1, .int 0, .int 1]) (rest := []) ⟨hx, hb, hml, hown, hts⟩ (kX8_within l D cI cZ cO p1 0 1) (va_cwS 3 hts gX8_cover_X8_within rfl rfl rfl (by decide +kernel) ⟨Nat.le_of_ble_eq_true rfl, Nat.le_of_ble_eq_true rfl⟩) (q_rS hE q_nil) rfl rfl hl.1 rfl (lv_room (Nat.le_of_ble_eq_true rfl)) dX8_cover_13 ⟨Nat.le_of_ble_eq_true rfl, Nat.le_of_ble_eq_true rfl⟩) (fun b3 => ?_)
    refine lv_if_ne (tgt := 22) hx hb dX8_cover_16 (by decide) (fun c4 => ?_) (fun c4 => ?_)
    · have ht := it_n c4 ht
      refine lv_aload_n hx hb dX8_cover_22 rfl (lv_at hl 0 rfl) ?_
      refine lv_iload_n hx hb dX8_cover_23 rfl (lv_at hl 1 rfl) ?_
      obtain ⟨q5, hq5, ht⟩ := it_b ht
      refine q_ri (va_runV (As := [.int p0]) (rest := []) ⟨hx, hb, hml, hown, hts⟩ (kX8_fewestCells l D cI cZ cO dd S0 p0 q5 hq5) (cwV 1 hts gX8_cover_X8_fewestCells rfl rfl rfl (by decide +kernel) ⟨Nat.le_of_ble_eq_true rfl, Nat.le_of_ble_eq_true rfl⟩) (q_rV (As := [.int p0]) hE hP (q0 := 10) (ci := 8) rfl rfl) rfl rfl hl.1 rfl (lv_room (Nat.le_of_ble_eq_true rfl)) dX8_cover_24 ⟨Nat.le_of_ble_eq_true rfl, Nat.le_of_ble_eq_true rfl⟩) (fun b6 => ?_)
      refine lv_istore_n (lv' := [(3, .int q5), (0, .ref (dd 14 0)), (1, .int p0), (2, .int p1)]) hx hb dX8_cover_27 rfl hl (by decide) rfl (fun ls hl => ?_)
      refine lv_iload_n hx hb dX8_cover_28 rfl (lv_at hl 3 rfl) ?_
      refine lv_if_ne (tgt := 39) hx hb dX8_cover_29 (by decide) (fun c7 => ?_) (fun c7 => ?_)
      · have ht := it_n c7 ht
        refine lv_iload_n hx hb dX8_cover_39 rfl (lv_at hl 0 rfl) ?_
        have ht := Option.some.inj ht
        exact W.iret (v := q5) hx hb hr (fun t e1 hW => ⟨_, rfl, ⟨ht, trivial⟩, e1⟩) (fun q h => absurd h List.not_mem_nil) dX8_cover_40
      · have ht := it_p c7 ht
        refine lv_iload_n hx hb dX8_cover_32 rfl (lv_at hl 0 rfl) ?_
        refine q_ri (va_runS (As := [.int q5]) (rest := []) ⟨hx, hb, hml, hown, hts⟩ (kJ6_bitCount_0f7a4 l D cI cZ cO q5) (va_cwS 1 hts gX8_cover_J6_bitCount_0f7a4 rfl rfl rfl (by decide +kernel) ⟨Nat.le_of_ble_eq_true rfl, Nat.le_of_ble_eq_true rfl⟩) (q_rS hE q_nil) rfl rfl hl.1 rfl (lv_room (Nat.le_of_ble_eq_true rfl)) dX8_cover_33 ⟨Nat.le_of_ble_eq_true rfl, Nat.le_of_ble_eq_true rfl⟩) (fun b8 => ?_)
        refine lv_goto (tgt := 40) hx hb dX8_cover_36 (by decide) ?_
        have ht := Option.some.inj ht
        exact W.iret (v := xJ6_bitCount_0f7a4 q5) hx hb hr (fun t e1 hW => ⟨_, rfl, ⟨ht, trivial⟩, e1⟩) (fun q h => absurd h List.not_mem_nil) dX8_cover_40
    · have ht := it_p c4 ht
      refine lv_bipush (v := (-2)) hx hb dX8_cover_19 (by decide) ?_
      have ht := Option.some.inj ht
      exact W.iret (v := (-2)) hx hb hr (fun t e1 hW => ⟨_, rfl, ⟨ht, trivial⟩, e1⟩) (fun q h => absurd h List.not_mem_nil) dX8_cover_21
abbrev rmX8_seen : Room := { frames := 1, cells := 0, slots := 0, locals := 23 }
set_option maxHeartbeats 4000000 in
set_option maxRecDepth 100000 in
theorem kX8_seen (l : Launch) (D : va_G) (cI cZ cO : ClassId) (dd : Nat → Nat → Nat) (sz : Nat) (S6 : St) (p0 : Int32) (p1 : Int32) (p2 : Int32) (tg : Int32 × St) (ht : xX8_seen p0 p1 p2 S6 = some tg) : Met l yX8_seen wsX8_seen rmX8_seen (q_PM D cI cZ cO [.ref (dd 14 0), .int p0, .int p1, .int p2] sz (wg7 cI cZ (dd 6) S6 ++ (wg8 dd))) (va_Qi (fun x (_ : Unit) => x = tg.1 ∧ True) (fun _ t => va_P D vwCl (wg7 cI cZ (dd 6) tg.2 ++ (wg8 dd)) t.heap) (va_A (wg7 cI cZ (dd 6) S6 ++ (wg8 dd)) sz)) 0 0 (va_A (wg7 cI cZ (dd 6) S6 ++ (wg8 dd)) sz) := by
  refine Met.ofW (cc := cX8_seen) (maxL := 4) (ret := (some .int)) (by decide) rfl ?_
  intro p e s m args below meth c s₁ B hml hv
  obtain ⟨rfl, hsz, hE, hP, hD0⟩ := hv
  have hx := B.exec
  have hb := B.bytes
  have hr := B.returns
  have hts := atoms_spec (ws := wsX8_seen) B.pre
  have hown : s.vm.findClass RX8 = some m.cls := findClass_of_methodNamed B.named
  have hlocks := B.notSynchronized
  have hi8 : ∀ w ∈ u_ws RX8 TX8 7, w ∈ wsX8_seen := by decide +kernel
  have hi7 : ∀ w ∈ u_ws RX7 TX7 4, w ∈ wsX8_seen := by decide +kernel
  have hw0 := hts (.fieldLink RX8 40 "HailNames" "sights" "LHailNames$Sights;") (by decide +kernel)
  have hw1 := hts (.fieldLink RX8 189 "HailNames$Sights" "number" "I") (by decide +kernel)
  subst hsz
  have hD1 := hD0.self (sz := s.heap.size)
  generalize hAe : va_A (wg7 cI cZ (dd 6) S6 ++ (wg8 dd)) s.heap.size = A at hD1 ⊢
  have hA : ∀ q : Nat, s.heap.size ≤ q → A q := fun q h => by rw [← hAe]; exact Or.inr h
  have hS : va_S A s.heap s.heap [] := va_S.rf
  have hD : ∀ (S6 : St), va_D A (wg7 cI cZ (dd 6) S6 ++ (wg8 dd)) := fun S6 => q_D hD1 rfl
  have hl := lv_entry ([.ref (dd 14 0), .int p0, .int p1, .int p2]) (n := 4) (Nat.le_of_ble_eq_true rfl)
  rw [lg_entry_eq]
  generalize (lg_sl ([.ref (dd 14 0), .int p0, .int p1, .int p2]) ++ List.replicate (4 - (lg_sl ([.ref (dd 14 0), .int p0, .int p1, .int p2])).length) Slot.unset).toArray = ls at hl ⊢
  have hl : lv_has ls 4 [(0, .ref (dd 14 0)), (1, .int p0), (2, .int p1), (3, .int p2)] := hl
  have ht := (xX8_seen_s p0 p1 p2 S6).symm.trans ht
  refine lv_iload_n hx hb dX8_seen_0 rfl (lv_at hl 1 rfl) ?_
  refine lv_iconst (v := 1) hx hb dX8_seen_1 (by decide) ?_
  refine lv_bipush (v := 15) hx hb dX8_seen_2 (by decide) ?_
  refine q_ri (va_runS (As := [.int p0, .int 1, .int 15]) (rest := []) ⟨hx, hb, hml, hown, hts⟩ (kX8_within l D cI cZ cO p0 1 15) (va_cwS 3 hts gX8_seen_X8_within rfl rfl rfl (by decide +kernel) ⟨Nat.le_of_ble_eq_true rfl, Nat.le_of_ble_eq_true rfl⟩) (q_rS hE q_nil) rfl rfl hl.1 rfl (lv_room (Nat.le_of_ble_eq_true rfl)) dX8_seen_4 ⟨Nat.le_of_ble_eq_true rfl, Nat.le_of_ble_eq_true rfl⟩) (fun b1 => ?_)
  refine lv_if_eq (tgt := 28) hx hb dX8_seen_7 (by decide) (fun c2 => ?_) (fun c2 => ?_)
  · have ht := it_p c2 ht
    refine lv_bipush (v := (-2)) hx hb dX8_seen_28 (by decide) ?_
    obtain rfl := Option.some.inj ht
    exact W.iret (v := (-2)) hx hb hr (fun t e1 hW => ⟨⟨_, (), rfl, ⟨rfl, trivial⟩, q_at e1 hP⟩, hS.F e1⟩) hS.2.2 dX8_seen_30
  · have ht := it_n c2 ht
    refine lv_iload_n hx hb dX8_seen_10 rfl (lv_at hl 2 rfl) ?_
    refine lv_iconst (v := 0) hx hb dX8_seen_11 (by decide) ?_
    refine lv_iconst (v := 3) hx hb dX8_seen_12 (by decide) ?_
    refine q_ri (va_runS (As := [.int p1, .int 0, .int 3]) (rest := []) ⟨hx, hb, hml, hown, hts⟩ (kX8_within l D cI cZ cO p1 0 3) (va_cwS 3 hts gX8_seen_X8_within rfl rfl rfl (by decide +kernel) ⟨Nat.le_of_ble_eq_true rfl, Nat.le_of_ble_eq_true rfl⟩) (q_rS hE q_nil) rfl rfl hl.1 rfl (lv_room (Nat.le_of_ble_eq_true rfl)) dX8_seen_13 ⟨Nat.le_of_ble_eq_true rfl, Nat.le_of_ble_eq_true rfl⟩) (fun b3 => ?_)
    refine lv_if_eq (tgt := 28) hx hb dX8_seen_16 (by decide) (fun c4 => ?_) (fun c4 => ?_)
    · have ht := it_p c4 ht
      refine lv_bipush (v := (-2)) hx hb dX8_seen_28 (by decide) ?_
      obtain rfl := Option.some.inj ht
      exact W.iret (v := (-2)) hx hb hr (fun t e1 hW => ⟨⟨_, (), rfl, ⟨rfl, trivial⟩, q_at e1 hP⟩, hS.F e1⟩) hS.2.2 dX8_seen_30
    · have ht := it_n c4 ht
      refine lv_iload_n hx hb dX8_seen_19 rfl (lv_at hl 3 rfl) ?_
      refine lv_iconst (v := 0) hx hb dX8_seen_20 (by decide) ?_
      refine lv_iconst (v := 3) hx hb dX8_seen_21 (by decide) ?_
      refine q_ri (va_runS (As := [.int p2, .int 0, .int 3]) (rest := []) ⟨hx, hb, hml, hown, hts⟩ (kX8_within l D cI cZ cO p2 0 3) (va_cwS 3 hts gX8_seen_X8_within rfl rfl rfl (by decide +kernel) ⟨Nat.le_of_ble_eq_true rfl, Nat.le_of_ble_eq_true rfl⟩) (q_rS hE q_nil) rfl rfl hl.1 rfl (lv_room (Nat.le_of_ble_eq_true rfl)) dX8_seen_22 ⟨Nat.le_of_ble_eq_true rfl, Nat.le_of_ble_eq_true rfl⟩) (fun b5 => ?_)
      refine lv_if_ne (tgt := 31) hx hb dX8_seen_25 (by decide) (fun c6 => ?_) (fun c6 => ?_)
      · have ht := it_n c6 ht
        refine lv_aload_n hx hb dX8_seen_31 rfl (lv_at hl 0 rfl) ?_
        refine va_get (D := D) (ci := 8) (v := .ref (dd 6 0)) (C := RX8) (T := TX8) (N := 7) hx hb hts hi8 hown hE.1 hP 4 rfl rfl 4 (by decide) hw0 (fun _ h9 => h9) rfl dX8_seen_32 ?_
        refine lv_iload_n hx hb dX8_seen_35 rfl (lv_at hl 1 rfl) ?_
        refine lv_iload_n hx hb dX8_seen_36 rfl (lv_at hl 2 rfl) ?_
        refine lv_iload_n hx hb dX8_seen_37 rfl (lv_at hl 3 rfl) ?_
        obtain ⟨q7, hq7, ht⟩ := it_b ht
        have hPc : va_P D vwCl (wg7 cI cZ (dd 6) S6) s.heap := hP.sub [0, 1, 2, 3] rfl
        have hDc : va_D A (wg7 cI cZ (dd 6) S6) := ((hD S6)).sub [0, 1, 2, 3] (by decide) rfl
        have hFc := va_free (wc := (wg7 cI cZ (dd 6) S6)) (hD S6) hS hA [0, 1, 2, 3] rfl
        refine q_mi (va_runV (As := [.int p0, .int p1, .int p2]) (rest := []) ⟨hx, hb, hml, hown, hts⟩ (kX7_append l D cI cZ cO (dd 6) s.heap.size S6 p0 p1 p2 q7 hq7) (cwV 3 hts gX8_seen_X7_append rfl rfl rfl (by decide +kernel) ⟨Nat.le_of_ble_eq_true rfl, Nat.le_of_ble_eq_true rfl⟩) (q_mV (As := [.int p0, .int p1, .int p2]) hE hPc hDc (q0 := 0) (ci := 7) rfl rfl) rfl rfl hl.1 rfl (lv_room (Nat.le_of_ble_eq_true rfl)) dX8_seen_38 ⟨Nat.le_of_ble_eq_true rfl, Nat.le_of_ble_eq_true rfl⟩) hS hFc (fun H locs b8 hP1 hk hS => ?_)
        have hP : va_P D vwCl (wg7 cI cZ (dd 6) q7.2 ++ (wg8 dd)) H := (q_join (wr := (wg8 dd)) hP (hD S6) [0, 1, 2, 3] [4] rfl rfl (by decide) (by decide) hk hFc hP1 hDc rfl).sub [1, 2, 3, 4, 0] rfl
        refine lv_if_eq (tgt := 54) hx hb dX8_seen_41 (by decide) (fun c9 => ?_) (fun c9 => ?_)
        · have ht := it_p c9 ht
          refine lv_bipush (v := (-4)) hx hb dX8_seen_54 (by decide) ?_
          obtain rfl := Option.some.inj ht
          exact W.iret (v := (-4)) hx hb hr (fun t e1 hW => ⟨⟨_, (), rfl, ⟨rfl, trivial⟩, q_at e1 hP⟩, hS.F e1⟩) hS.2.2 dX8_seen_56
        · have ht := it_n c9 ht
          refine lv_aload_n hx hb dX8_seen_44 rfl (lv_at hl 0 rfl) ?_
          refine va_get (D := D) (ci := 8) (v := .ref (dd 6 0)) (C := RX8) (T := TX8) (N := 7) hx hb hts hi8 hown hE.1 hP 4 rfl rfl 4 (by decide) hw0 (fun _ h9 => h9) rfl dX8_seen_45 ?_
          refine va_get (D := D) (ci := 7) (v := .int (q7.2 3 0)) (C := RX7) (T := TX7) (N := 4) hx hb hts hi7 hown hE.1 hP 0 rfl rfl 3 (by decide) hw1 (fun _ h9 => h9) rfl dX8_seen_48 ?_
          refine lv_goto (tgt := 56) hx hb dX8_seen_51 (by decide) ?_
          obtain rfl := Option.some.inj ht
          exact W.iret (v := q7.2 3 0) hx hb hr (fun t e1 hW => ⟨⟨_, (), rfl, ⟨rfl, trivial⟩, q_at e1 hP⟩, hS.F e1⟩) hS.2.2 dX8_seen_56
      · have ht := it_p c6 ht
        refine lv_bipush (v := (-2)) hx hb dX8_seen_28 (by decide) ?_
        obtain rfl := Option.some.inj ht
        exact W.iret (v := (-2)) hx hb hr (fun t e1 hW => ⟨⟨_, (), rfl, ⟨rfl, trivial⟩, q_at e1 hP⟩, hS.F e1⟩) hS.2.2 dX8_seen_30
abbrev rmX8_forget : Room := { frames := 0, cells := 0, slots := 0, locals := 0 }
set_option maxHeartbeats 4000000 in
set_option maxRecDepth 100000 in
theorem kX8_forget (l : Launch) (D : va_G) (cI cZ cO : ClassId) (dd : Nat → Nat → Nat) (sz : Nat) (S6 : St) (tg : Int32 × St) (ht : xX8_forget S6 = some tg) : Met l yX8_forget wsX8_forget rmX8_forget (q_PM D cI cZ cO [.ref (dd 14 0)] sz (wg7 cI cZ (dd 6) S6 ++ (wg8 dd))) (va_Qi (fun x (_ : Unit) => x = tg.1 ∧ True) (fun _ t => va_P D vwCl (wg7 cI cZ (dd 6) tg.2 ++ (wg8 dd)) t.heap) (va_A (wg7 cI cZ (dd 6) S6 ++ (wg8 dd)) sz)) 0 0 (va_A (wg7 cI cZ (dd 6) S6 ++ (wg8 dd)) sz) := by
  refine Met.ofW (cc := cX8_forget) (maxL := 2) (ret := (some .int)) (by decide) rfl ?_
  intro p e s m args below meth c s₁ B hml hv
  obtain ⟨rfl, hsz, hE, hP, hD0⟩ := hv
  have hx := B.exec
  have hb := B.bytes
  have hr := B.returns
  have hts := atoms_spec (ws := wsX8_forget) B.pre
  have hown : s.vm.findClass RX8 = some m.cls := findClass_of_methodNamed B.named
  have hlocks := B.notSynchronized
  have hi8 : ∀ w ∈ u_ws RX8 TX8 7, w ∈ wsX8_forget := by decide +kernel
  have hi7 : ∀ w ∈ u_ws RX7 TX7 4, w ∈ wsX8_forget := by decide +kernel
  have hw0 := hts (.fieldLink RX8 40 "HailNames" "sights" "LHailNames$Sights;") (by decide +kernel)
  have hw1 := hts (.fieldLink RX8 189 "HailNames$Sights" "number" "I") (by decide +kernel)
  subst hsz
  have hD1 := hD0.self (sz := s.heap.size)
  generalize hAe : va_A (wg7 cI cZ (dd 6) S6 ++ (wg8 dd)) s.heap.size = A at hD1 ⊢
  have hA : ∀ q : Nat, s.heap.size ≤ q → A q := fun q h => by rw [← hAe]; exact Or.inr h
  have hS : va_S A s.heap s.heap [] := va_S.rf
  have hD : ∀ (S6 : St), va_D A (wg7 cI cZ (dd 6) S6 ++ (wg8 dd)) := fun S6 => q_D hD1 rfl
  have hl := lv_entry ([.ref (dd 14 0)]) (n := 2) (Nat.le_of_ble_eq_true rfl)
  rw [lg_entry_eq]
  generalize (lg_sl ([.ref (dd 14 0)]) ++ List.replicate (2 - (lg_sl ([.ref (dd 14 0)])).length) Slot.unset).toArray = ls at hl ⊢
  have hl : lv_has ls 2 [(0, .ref (dd 14 0))] := hl
  have ht := (xX8_forget_s S6).symm.trans ht
  refine lv_aload_n hx hb dX8_forget_0 rfl (lv_at hl 0 rfl) ?_
  refine va_get (D := D) (ci := 8) (v := .ref (dd 6 0)) (C := RX8) (T := TX8) (N := 7) hx hb hts hi8 hown hE.1 hP 4 rfl rfl 4 (by decide) hw0 (fun _ h9 => h9) rfl dX8_forget_1 ?_
  refine va_get (D := D) (ci := 7) (v := .int (S6 3 0)) (C := RX7) (T := TX7) (N := 4) hx hb hts hi7 hown hE.1 hP 0 rfl rfl 3 (by decide) hw1 (fun _ h9 => h9) rfl dX8_forget_4 ?_
  refine lv_istore_n (lv' := [(1, .int (S6 3 0)), (0, .ref (dd 14 0))]) hx hb dX8_forget_7 rfl hl (by decide) rfl (fun ls hl => ?_)
  refine lv_aload_n hx hb dX8_forget_8 rfl (lv_at hl 1 rfl) ?_
  refine va_get (D := D) (ci := 8) (v := .ref (dd 6 0)) (C := RX8) (T := TX8) (N := 7) hx hb hts hi8 hown hE.1 hP 4 rfl rfl 4 (by decide) hw0 (fun _ h9 => h9) rfl dX8_forget_9 ?_
  refine lv_iconst (v := 0) hx hb dX8_forget_12 (by decide) ?_
  refine va_put (D := D) (ci := 7) (v := .int 0) (ty := .int) (C := RX7) (T := TX7) (N := 4) hx hb hts hi7 tyX7 tyX7_ok nmX7 hown hE.1 hP (hD _) hS 0 rfl rfl 3 (by decide) hw1 (fun _ h9 => h9) rfl (by decide +kernel) rfl rfl (Nat.le_of_ble_eq_true rfl) dX8_forget_13 (fun H locs hP _ hS => ?_)
  have hP : va_P D vwCl (wg7 cI cZ (dd 6) (q_su S6 3 0 0) ++ (wg8 dd)) H := hP
  obtain ⟨T1, eT1⟩ : ∃ z : St, z = q_su S6 3 0 0 := ⟨_, rfl⟩
  rw [← eT1] at hP
  have ht := it_l ht eT1
  refine lv_iload_n hx hb dX8_forget_16 rfl (lv_at hl 0 rfl) ?_
  obtain rfl := Option.some.inj ht
  exact W.iret (v := S6 3 0) hx hb hr (fun t e1 hW => ⟨⟨_, (), rfl, ⟨rfl, trivial⟩, q_at e1 hP⟩, hS.F e1⟩) hS.2.2 dX8_forget_17
abbrev rmX8_nets : Room := { frames := 4, cells := 0, slots := 0, locals := 89 }
set_option maxHeartbeats 4000000 in
set_option maxRecDepth 100000 in
theorem kX8_nets (l : Launch) (D : va_G) (cI cZ cO : ClassId) (dd : Nat → Nat → Nat) (sz : Nat) (S6 : St) (S7 : St) (p0 : Int32) (tg : Int32 × St) (ht : xX8_nets S6 p0 S7 = some tg) : Met l yX8_nets wsX8_nets rmX8_nets (q_PM D cI cZ cO [.ref (dd 14 0), .int p0] sz (wg7 cI cZ (dd 6) S6 ++ (wg2 cI cZ (dd 7) S7 ++ (wg8 dd)))) (va_Qi (fun x (_ : Unit) => x = tg.1 ∧ True) (fun _ t => va_P D vwCl (wg7 cI cZ (dd 6) S6 ++ (wg2 cI cZ (dd 7) tg.2 ++ (wg8 dd))) t.heap) (va_A (wg7 cI cZ (dd 6) S6 ++ (wg2 cI cZ (dd 7) S7 ++ (wg8 dd))) sz)) 0 0 (va_A (wg7 cI cZ (dd 6) S6 ++ (wg2 cI cZ (dd 7) S7 ++ (wg8 dd))) sz) := by
  refine Met.ofW (cc := cX8_nets) (maxL := 2) (ret := (some .int)) (by decide) rfl ?_
  intro p e s m args below meth c s₁ B hml hv
  obtain ⟨rfl, hsz, hE, hP, hD0⟩ := hv
  have hx := B.exec
  have hb := B.bytes
  have hr := B.returns
  have hts := atoms_spec (ws := wsX8_nets) B.pre
  have hown : s.vm.findClass RX8 = some m.cls := findClass_of_methodNamed B.named
  have hlocks := B.notSynchronized
  have hi8 : ∀ w ∈ u_ws RX8 TX8 7, w ∈ wsX8_nets := by decide +kernel
  have hi2 : ∀ w ∈ u_ws RX2 TX2 6, w ∈ wsX8_nets := by decide +kernel
  have hw0 := hts (.fieldLink RX8 47 "HailNames" "finder" "LHailNames$NetFinder;") (by decide +kernel)
  have hw1 := hts (.fieldLink RX8 40 "HailNames" "sights" "LHailNames$Sights;") (by decide +kernel)
  have hw2 := hts (.fieldLink RX8 196 "HailNames$NetFinder" "found" "I") (by decide +kernel)
  subst hsz
  have hD1 := hD0.self (sz := s.heap.size)
  generalize hAe : va_A (wg7 cI cZ (dd 6) S6 ++ (wg2 cI cZ (dd 7) S7 ++ (wg8 dd))) s.heap.size = A at hD1 ⊢
  have hA : ∀ q : Nat, s.heap.size ≤ q → A q := fun q h => by rw [← hAe]; exact Or.inr h
  have hS : va_S A s.heap s.heap [] := va_S.rf
  have hD : ∀ (S6 : St) (S7 : St), va_D A (wg7 cI cZ (dd 6) S6 ++ (wg2 cI cZ (dd 7) S7 ++ (wg8 dd))) := fun S6 S7 => q_D hD1 rfl
  have hl := lv_entry ([.ref (dd 14 0), .int p0]) (n := 2) (Nat.le_of_ble_eq_true rfl)
  rw [lg_entry_eq]
  generalize (lg_sl ([.ref (dd 14 0), .int p0]) ++ List.replicate (2 - (lg_sl ([.ref (dd 14 0), .int p0])).length) Slot.unset).toArray = ls at hl ⊢
  have hl : lv_has ls 2 [(0, .ref (dd 14 0)), (1, .int p0)] := hl
  have ht := (xX8_nets_s S6 p0 S7).symm.trans ht
  refine lv_aload_n hx hb dX8_nets_0 rfl (lv_at hl 0 rfl) ?_
  refine va_get (D := D) (ci := 8) (v := .ref (dd 7 0)) (C := RX8) (T := TX8) (N := 7) hx hb hts hi8 hown hE.1 hP 8 rfl rfl 5 (by decide) hw0 (fun _ h9 => h9) rfl dX8_nets_1 ?_
  refine lv_aload_n hx hb dX8_nets_4 rfl (lv_at hl 0 rfl) ?_
  refine va_get (D := D) (ci := 8) (v := .ref (dd 6 0)) (C := RX8) (T := TX8) (N := 7) hx hb hts hi8 hown hE.1 hP 8 rfl rfl 4 (by decide) hw1 (fun _ h9 => h9) rfl dX8_nets_5 ?_
  obtain ⟨q1, hq1, ht⟩ := it_b ht
  have hPc : va_P D vwCl (wg2 cI cZ (dd 7) S7 ++ (wg7 cI cZ (dd 6) S6)) s.heap := hP.sub [4, 5, 6, 7, 0, 1, 2, 3] rfl
  have hDc : va_D A (wg2 cI cZ (dd 7) S7 ++ (wg7 cI cZ (dd 6) S6)) := ((hD S6 S7)).sub [4, 5, 6, 7, 0, 1, 2, 3] (by decide) rfl
  have hFc := va_free (wc := (wg2 cI cZ (dd 7) S7 ++ (wg7 cI cZ (dd 6) S6))) (hD S6 S7) hS hA [4, 5, 6, 7, 0, 1, 2, 3] rfl
  refine q_mv (va_runV (As := [.ref (dd 6 0)]) (rest := []) ⟨hx, hb, hml, hown, hts⟩ (kX2_findNets l D cI cZ cO (dd 7) (dd 6) s.heap.size S7 S6 q1 hq1) (cwV 1 hts gX8_nets_X2_findNets rfl rfl rfl (by decide +kernel) ⟨Nat.le_of_ble_eq_true rfl, Nat.le_of_ble_eq_true rfl⟩) (q_mV (As := [.ref (dd 6 0)]) hE hPc hDc (q0 := 0) (ci := 2) rfl rfl) rfl rfl hl.1 rfl (lv_room (Nat.le_of_ble_eq_true rfl)) dX8_nets_8 ⟨Nat.le_of_ble_eq_true rfl, Nat.le_of_ble_eq_true rfl⟩) hS hFc (fun H locs hP1 hk hS => ?_)
  have hP : va_P D vwCl (wg7 cI cZ (dd 6) S6 ++ (wg2 cI cZ (dd 7) q1 ++ (wg8 dd))) H := (q_join (wr := (wg8 dd)) hP (hD S6 S7) [4, 5, 6, 7, 0, 1, 2, 3] [8] rfl rfl (by decide) (by decide) hk hFc hP1 hDc rfl).sub [5, 6, 7, 8, 1, 2, 3, 4, 0] rfl
  refine lv_iload_n hx hb dX8_nets_11 rfl (lv_at hl 1 rfl) ?_
  refine lv_iconst (v := (-1)) hx hb dX8_nets_12 (by decide) ?_
  refine lv_icmp_ne (tgt := 24) hx hb dX8_nets_13 (by decide) (fun c2 => ?_) (fun c2 => ?_)
  · have ht := it_n c2 ht
    refine lv_aload_n hx hb dX8_nets_24 rfl (lv_at hl 0 rfl) ?_
    refine va_get (D := D) (ci := 8) (v := .ref (dd 7 0)) (C := RX8) (T := TX8) (N := 7) hx hb hts hi8 hown hE.1 hP 8 rfl rfl 5 (by decide) hw0 (fun _ h9 => h9) rfl dX8_nets_25 ?_
    refine lv_iload_n hx hb dX8_nets_28 rfl (lv_at hl 1 rfl) ?_
    obtain ⟨q3, hq3, ht⟩ := it_b ht
    have hPc : va_P D vwCl (wg2 cI cZ (dd 7) q1) H := hP.sub [4, 5, 6, 7] rfl
    refine q_ri (va_runV (As := [.int p0]) (rest := []) ⟨hx, hb, hml, hown, hts⟩ (kX2_figuresOfNet l D cI cZ cO (dd 7) q1 p0 q3 hq3) (cwV 1 hts gX8_nets_X2_figuresOfNet rfl rfl rfl (by decide +kernel) ⟨Nat.le_of_ble_eq_true rfl, Nat.le_of_ble_eq_true rfl⟩) (q_rV (As := [.int p0]) hE hPc (q0 := 0) (ci := 2) rfl rfl) rfl rfl hl.1 rfl (lv_room (Nat.le_of_ble_eq_true rfl)) dX8_nets_29 ⟨Nat.le_of_ble_eq_true rfl, Nat.le_of_ble_eq_true rfl⟩) (fun b4 => ?_)
    obtain rfl := Option.some.inj ht
    exact W.iret (v := q3) hx hb hr (fun t e1 hW => ⟨⟨_, (), rfl, ⟨rfl, trivial⟩, q_at e1 hP⟩, hS.F e1⟩) hS.2.2 dX8_nets_32
  · have ht := it_p c2 ht
    refine lv_aload_n hx hb dX8_nets_16 rfl (lv_at hl 0 rfl) ?_
    refine va_get (D := D) (ci := 8) (v := .ref (dd 7 0)) (C := RX8) (T := TX8) (N := 7) hx hb hts hi8 hown hE.1 hP 8 rfl rfl 5 (by decide) hw0 (fun _ h9 => h9) rfl dX8_nets_17 ?_
    refine va_get (D := D) (ci := 2) (v := .int (q1 3 0)) (C := RX2) (T := TX2) (N := 6) hx hb hts hi2 hown hE.1 hP 4 rfl rfl 3 (by decide) hw2 (fun _ h9 => h9) rfl dX8_nets_20 ?_
    obtain rfl := Option.some.inj ht
    exact W.iret (v := q1 3 0) hx hb hr (fun t e1 hW => ⟨⟨_, (), rfl, ⟨rfl, trivial⟩, q_at e1 hP⟩, hS.F e1⟩) hS.2.2 dX8_nets_23
abbrev rmX8_ask : Room := { frames := 4, cells := 0, slots := 0, locals := 91 }
set_option maxHeartbeats 4000000 in
set_option maxRecDepth 100000 in
theorem kX8_ask (l : Launch) (D : va_G) (cI cZ cO : ClassId) (dd : Nat → Nat → Nat) (sz : Nat) (S6 : St) (S7 : St) (p0 : Int32) (tg : Int32 × St) (ht : xX8_ask S6 p0 S7 = some tg) : Met l yX8_ask wsX8_ask rmX8_ask (q_PM D cI cZ cO [.ref (dd 14 0), .int p0] sz (wg7 cI cZ (dd 6) S6 ++ (wg2 cI cZ (dd 7) S7 ++ (wg8 dd)))) (va_Qi (fun x (_ : Unit) => x = tg.1 ∧ True) (fun _ t => va_P D vwCl (wg7 cI cZ (dd 6) S6 ++ (wg2 cI cZ (dd 7) tg.2 ++ (wg8 dd))) t.heap) (va_A (wg7 cI cZ (dd 6) S6 ++ (wg2 cI cZ (dd 7) S7 ++ (wg8 dd))) sz)) 0 0 (va_A (wg7 cI cZ (dd 6) S6 ++ (wg2 cI cZ (dd 7) S7 ++ (wg8 dd))) sz) := by
  refine Met.ofW (cc := cX8_ask) (maxL := 2) (ret := (some .int)) (by decide) rfl ?_
  intro p e s m args below meth c s₁ B hml hv
  obtain ⟨rfl, hsz, hE, hP, hD0⟩ := hv
  have hx := B.exec
  have hb := B.bytes
  have hr := B.returns
  have hts := atoms_spec (ws := wsX8_ask) B.pre
  have hown : s.vm.findClass RX8 = some m.cls := findClass_of_methodNamed B.named
  have hlocks := B.notSynchronized
  have hi8 : ∀ w ∈ u_ws RX8 TX8 7, w ∈ wsX8_ask := by decide +kernel
  have hi2 : ∀ w ∈ u_ws RX2 TX2 6, w ∈ wsX8_ask := by decide +kernel
  have hw0 := hts (.fieldLink RX8 47 "HailNames" "finder" "LHailNames$NetFinder;") (by decide +kernel)
  have hw1 := hts (.fieldLink RX8 40 "HailNames" "sights" "LHailNames$Sights;") (by decide +kernel)
  have hw2 := hts (.fieldLink RX8 196 "HailNames$NetFinder" "found" "I") (by decide +kernel)
  have hw3 := hts (.fieldLink RX8 208 "HailNames$NetFinder" "mostLeft" "I") (by decide +kernel)
  have hw4 := hts (.fieldLink RX8 205 "HailNames$NetFinder" "question" "I") (by decide +kernel)
  subst hsz
  have hD1 := hD0.self (sz := s.heap.size)
  generalize hAe : va_A (wg7 cI cZ (dd 6) S6 ++ (wg2 cI cZ (dd 7) S7 ++ (wg8 dd))) s.heap.size = A at hD1 ⊢
  have hA : ∀ q : Nat, s.heap.size ≤ q → A q := fun q h => by rw [← hAe]; exact Or.inr h
  have hS : va_S A s.heap s.heap [] := va_S.rf
  have hD : ∀ (S6 : St) (S7 : St), va_D A (wg7 cI cZ (dd 6) S6 ++ (wg2 cI cZ (dd 7) S7 ++ (wg8 dd))) := fun S6 S7 => q_D hD1 rfl
  have hl := lv_entry ([.ref (dd 14 0), .int p0]) (n := 2) (Nat.le_of_ble_eq_true rfl)
  rw [lg_entry_eq]
  generalize (lg_sl ([.ref (dd 14 0), .int p0]) ++ List.replicate (2 - (lg_sl ([.ref (dd 14 0), .int p0])).length) Slot.unset).toArray = ls at hl ⊢
  have hl : lv_has ls 2 [(0, .ref (dd 14 0)), (1, .int p0)] := hl
  have ht := (xX8_ask_s S6 p0 S7).symm.trans ht
  refine lv_iload_n hx hb dX8_ask_0 rfl (lv_at hl 1 rfl) ?_
  refine lv_iconst (v := 0) hx hb dX8_ask_1 (by decide) ?_
  refine lv_iconst (v := 1) hx hb dX8_ask_2 (by decide) ?_
  refine q_ri (va_runS (As := [.int p0, .int 0, .int 1]) (rest := []) ⟨hx, hb, hml, hown, hts⟩ (kX8_within l D cI cZ cO p0 0 1) (va_cwS 3 hts gX8_ask_X8_within rfl rfl rfl (by decide +kernel) ⟨Nat.le_of_ble_eq_true rfl, Nat.le_of_ble_eq_true rfl⟩) (q_rS hE q_nil) rfl rfl hl.1 rfl (lv_room (Nat.le_of_ble_eq_true rfl)) dX8_ask_3 ⟨Nat.le_of_ble_eq_true rfl, Nat.le_of_ble_eq_true rfl⟩) (fun b1 => ?_)
  refine lv_if_ne (tgt := 12) hx hb dX8_ask_6 (by decide) (fun c2 => ?_) (fun c2 => ?_)
  · have ht := it_n c2 ht
    refine lv_aload_n hx hb dX8_ask_12 rfl (lv_at hl 0 rfl) ?_
    refine va_get (D := D) (ci := 8) (v := .ref (dd 7 0)) (C := RX8) (T := TX8) (N := 7) hx hb hts hi8 hown hE.1 hP 8 rfl rfl 5 (by decide) hw0 (fun _ h9 => h9) rfl dX8_ask_13 ?_
    refine lv_aload_n hx hb dX8_ask_16 rfl (lv_at hl 0 rfl) ?_
    refine va_get (D := D) (ci := 8) (v := .ref (dd 6 0)) (C := RX8) (T := TX8) (N := 7) hx hb hts hi8 hown hE.1 hP 8 rfl rfl 4 (by decide) hw1 (fun _ h9 => h9) rfl dX8_ask_17 ?_
    obtain ⟨q3, hq3, ht⟩ := it_b ht
    have hPc : va_P D vwCl (wg2 cI cZ (dd 7) S7 ++ (wg7 cI cZ (dd 6) S6)) s.heap := hP.sub [4, 5, 6, 7, 0, 1, 2, 3] rfl
    have hDc : va_D A (wg2 cI cZ (dd 7) S7 ++ (wg7 cI cZ (dd 6) S6)) := ((hD S6 S7)).sub [4, 5, 6, 7, 0, 1, 2, 3] (by decide) rfl
    have hFc := va_free (wc := (wg2 cI cZ (dd 7) S7 ++ (wg7 cI cZ (dd 6) S6))) (hD S6 S7) hS hA [4, 5, 6, 7, 0, 1, 2, 3] rfl
    refine q_mv (va_runV (As := [.ref (dd 6 0)]) (rest := []) ⟨hx, hb, hml, hown, hts⟩ (kX2_findNets l D cI cZ cO (dd 7) (dd 6) s.heap.size S7 S6 q3 hq3) (cwV 1 hts gX8_ask_X2_findNets rfl rfl rfl (by decide +kernel) ⟨Nat.le_of_ble_eq_true rfl, Nat.le_of_ble_eq_true rfl⟩) (q_mV (As := [.ref (dd 6 0)]) hE hPc hDc (q0 := 0) (ci := 2) rfl rfl) rfl rfl hl.1 rfl (lv_room (Nat.le_of_ble_eq_true rfl)) dX8_ask_20 ⟨Nat.le_of_ble_eq_true rfl, Nat.le_of_ble_eq_true rfl⟩) hS hFc (fun H locs hP1 hk hS => ?_)
    have hP : va_P D vwCl (wg7 cI cZ (dd 6) S6 ++ (wg2 cI cZ (dd 7) q3 ++ (wg8 dd))) H := (q_join (wr := (wg8 dd)) hP (hD S6 S7) [4, 5, 6, 7, 0, 1, 2, 3] [8] rfl rfl (by decide) (by decide) hk hFc hP1 hDc rfl).sub [5, 6, 7, 8, 1, 2, 3, 4, 0] rfl
    refine lv_aload_n hx hb dX8_ask_23 rfl (lv_at hl 0 rfl) ?_
    refine va_get (D := D) (ci := 8) (v := .ref (dd 7 0)) (C := RX8) (T := TX8) (N := 7) hx hb hts hi8 hown hE.1 hP 8 rfl rfl 5 (by decide) hw0 (fun _ h9 => h9) rfl dX8_ask_24 ?_
    refine va_get (D := D) (ci := 2) (v := .int (q3 3 0)) (C := RX2) (T := TX2) (N := 6) hx hb hts hi2 hown hE.1 hP 4 rfl rfl 3 (by decide) hw2 (fun _ h9 => h9) rfl dX8_ask_27 ?_
    refine lv_if_ne (tgt := 36) hx hb dX8_ask_30 (by decide) (fun c4 => ?_) (fun c4 => ?_)
    · have ht := it_n c4 ht
      refine lv_aload_n hx hb dX8_ask_36 rfl (lv_at hl 0 rfl) ?_
      refine va_get (D := D) (ci := 8) (v := .ref (dd 7 0)) (C := RX8) (T := TX8) (N := 7) hx hb hts hi8 hown hE.1 hP 8 rfl rfl 5 (by decide) hw0 (fun _ h9 => h9) rfl dX8_ask_37 ?_
      obtain ⟨q5, hq5, ht⟩ := it_b ht
      have hPc : va_P D vwCl (wg2 cI cZ (dd 7) q3) H := hP.sub [4, 5, 6, 7] rfl
      have hDc : va_D A (wg2 cI cZ (dd 7) q3) := ((hD S6 q3)).sub [4, 5, 6, 7] (by decide) rfl
      have hFc := va_free (wc := (wg2 cI cZ (dd 7) q3)) (hD S6 q3) hS hA [4, 5, 6, 7] rfl
      refine q_mv (va_runV (As := []) (rest := []) ⟨hx, hb, hml, hown, hts⟩ (kX2_findQuestion l D cI cZ cO (dd 7) H.size q3 q5 hq5) (cwV 0 hts gX8_ask_X2_findQuestion rfl rfl rfl (by decide +kernel) ⟨Nat.le_of_ble_eq_true rfl, Nat.le_of_ble_eq_true rfl⟩) (q_mV (As := []) hE hPc hDc (q0 := 0) (ci := 2) rfl rfl) rfl rfl hl.1 rfl (lv_room (Nat.le_of_ble_eq_true rfl)) dX8_ask_40 ⟨Nat.le_of_ble_eq_true rfl, Nat.le_of_ble_eq_true rfl⟩) hS hFc (fun H locs hP1 hk hS => ?_)
      have hP : va_P D vwCl (wg7 cI cZ (dd 6) S6 ++ (wg2 cI cZ (dd 7) q5 ++ (wg8 dd))) H := (q_join (wr := (wg7 cI cZ (dd 6) S6 ++ (wg8 dd))) hP (hD S6 q3) [4, 5, 6, 7] [0, 1, 2, 3, 8] rfl rfl (by decide) (by decide) hk hFc hP1 hDc rfl).sub [0, 1, 2, 3, 5, 6, 7, 8, 4] rfl
      refine lv_iload_n hx hb dX8_ask_43 rfl (lv_at hl 1 rfl) ?_
      refine lv_if_ne (tgt := 57) hx hb dX8_ask_44 (by decide) (fun c6 => ?_) (fun c6 => ?_)
      · have ht := it_n c6 ht
        refine lv_aload_n hx hb dX8_ask_57 rfl (lv_at hl 0 rfl) ?_
        refine va_get (D := D) (ci := 8) (v := .ref (dd 7 0)) (C := RX8) (T := TX8) (N := 7) hx hb hts hi8 hown hE.1 hP 8 rfl rfl 5 (by decide) hw0 (fun _ h9 => h9) rfl dX8_ask_58 ?_
        refine va_get (D := D) (ci := 2) (v := .int (q5 5 0)) (C := RX2) (T := TX2) (N := 6) hx hb hts hi2 hown hE.1 hP 4 rfl rfl 5 (by decide) hw3 (fun _ h9 => h9) rfl dX8_ask_61 ?_
        obtain rfl := Option.some.inj ht
        exact W.iret (v := q5 5 0) hx hb hr (fun t e1 hW => ⟨⟨_, (), rfl, ⟨rfl, trivial⟩, q_at e1 hP⟩, hS.F e1⟩) hS.2.2 dX8_ask_64
      · have ht := it_p c6 ht
        refine lv_aload_n hx hb dX8_ask_47 rfl (lv_at hl 0 rfl) ?_
        refine va_get (D := D) (ci := 8) (v := .ref (dd 7 0)) (C := RX8) (T := TX8) (N := 7) hx hb hts hi8 hown hE.1 hP 8 rfl rfl 5 (by decide) hw0 (fun _ h9 => h9) rfl dX8_ask_48 ?_
        refine va_get (D := D) (ci := 2) (v := .int (q5 4 0)) (C := RX2) (T := TX2) (N := 6) hx hb hts hi2 hown hE.1 hP 4 rfl rfl 4 (by decide) hw4 (fun _ h9 => h9) rfl dX8_ask_51 ?_
        refine lv_goto (tgt := 64) hx hb dX8_ask_54 (by decide) ?_
        obtain rfl := Option.some.inj ht
        exact W.iret (v := q5 4 0) hx hb hr (fun t e1 hW => ⟨⟨_, (), rfl, ⟨rfl, trivial⟩, q_at e1 hP⟩, hS.F e1⟩) hS.2.2 dX8_ask_64
    · have ht := it_p c4 ht
      refine lv_bipush (v := (-6)) hx hb dX8_ask_33 (by decide) ?_
      obtain rfl := Option.some.inj ht
      exact W.iret (v := (-6)) hx hb hr (fun t e1 hW => ⟨⟨_, (), rfl, ⟨rfl, trivial⟩, q_at e1 hP⟩, hS.F e1⟩) hS.2.2 dX8_ask_35
  · have ht := it_p c2 ht
    refine lv_bipush (v := (-2)) hx hb dX8_ask_9 (by decide) ?_
    obtain rfl := Option.some.inj ht
    exact W.iret (v := (-2)) hx hb hr (fun t e1 hW => ⟨⟨_, (), rfl, ⟨rfl, trivial⟩, q_at e1 hP⟩, hS.F e1⟩) hS.2.2 dX8_ask_11
abbrev rmX8_lastLosingHeap : Room := { frames := 0, cells := 0, slots := 0, locals := 0 }
set_option maxHeartbeats 4000000 in
set_option maxRecDepth 100000 in
theorem kX8_lastLosingHeap (l : Launch) (D : va_G) (cI cZ cO : ClassId) (p0 : Int32) (tg : Int32) (ht : xX8_lastLosingHeap p0 = some tg) : Met l yX8_lastLosingHeap wsX8_lastLosingHeap rmX8_lastLosingHeap (q_PR D cI cZ cO [.int p0] ([] : va_W)) (vp_Si (fun x => x = tg ∧ True)) 0 0 (fun _ => False) := by
  refine Met.ofW (cc := cX8_lastLosingHeap) (maxL := 4) (ret := (some .int)) (by decide) rfl ?_
  intro p e s m args below meth c s₁ B hml hv
  obtain ⟨rfl, hE, hP⟩ := hv
  have hx := B.exec
  have hb := B.bytes
  have hr := B.returns
  have hts := atoms_spec (ws := wsX8_lastLosingHeap) B.pre
  have hown : s.vm.findClass RX8 = some m.cls := findClass_of_methodNamed B.named
  have hlocks := B.notSynchronized
  have hl := lv_entry ([.int p0]) (n := 4) (Nat.le_of_ble_eq_true rfl)
  rw [lg_entry_eq]
  generalize (lg_sl ([.int p0]) ++ List.replicate (4 - (lg_sl ([.int p0])).length) Slot.unset).toArray = ls at hl ⊢
  have hl : lv_has ls 4 [(0, .int p0)] := hl
  have ht := (xX8_lastLosingHeap_s p0).symm.trans ht
  obtain ⟨Q, hQ⟩ : ∃ Q, Q = MQ below (vp_Si (fun x => x = tg ∧ True)) ([.int p0] : List Value).toArray s 0 0 (fun _ => False) := ⟨_, rfl⟩
  rw [← hQ]
  have L6 : ∀ (n : Nat) (x1 : Int32) (x2 : Int32) (x3 : Int32) (ls : Array Slot) (_ : lv_has ls 4 [(0, .int p0), (1, .int x1), (2, .int x2), (3, .int x3)]) (_ : xX8_lastLosingHeap_h6 p0 n x1 x2 x3 = some tg), W p l e (headSpec wsX8_lastLosingHeap rmX8_lastLosingHeap).room s m ([.int p0] : List Value).toArray below meth c s.heap [] 0 0 Q (F0 m 6 ls []) := by
    intro n
    induction n with
    | zero =>
      intro x1 x2 x3 ls hl ht
      exact it_z ht
    | succ n6 ih6 =>
      intro x1 x2 x3 ls hl ht
      have ht := (xX8_lastLosingHeap_h6_s p0 n6 x1 x2 x3).symm.trans ht
      have J25 : ∀ (x1 : Int32) (x2 : Int32) (x3 : Int32) (ls : Array Slot) (_ : lv_has ls 4 [(0, .int p0), (1, .int x1), (2, .int x2), (3, .int x3)]) (_ : xX8_lastLosingHeap_h25 p0 (xX8_lastLosingHeap_h6 p0 n6) x1 x2 x3 = some tg), W p l e (headSpec wsX8_lastLosingHeap rmX8_lastLosingHeap).room s m ([.int p0] : List Value).toArray below meth c s.heap [] 0 0 Q (F0 m 25 ls []) := by
        intro x1 x2 x3 ls hl ht
        have ht := (xX8_lastLosingHeap_h25_s p0 (xX8_lastLosingHeap_h6 p0 n6) x1 x2 x3).symm.trans ht
        refine lv_iload_n hx hb dX8_lastLosingHeap_25 rfl (lv_at hl 3 rfl) ?_
        refine lv_iload_n hx hb dX8_lastLosingHeap_26 rfl (lv_at hl 2 rfl) ?_
        refine lv_isub hx hb dX8_lastLosingHeap_27 ?_
        refine lv_iload_n hx hb dX8_lastLosingHeap_28 rfl (lv_at hl 1 rfl) ?_
        refine lv_icmp_le (tgt := 34) hx hb dX8_lastLosingHeap_29 (by decide) (fun c3 => ?_) (fun c3 => ?_)
        · have ht := it_p c3 ht
          refine lv_iinc (v := x3 + 1) (lv' := [(3, .int (x3 + 1)), (0, .int p0), (1, .int x1), (2, .int x2)]) hx hb dX8_lastLosingHeap_34 hl (k := 3) rfl rfl (by decide) rfl (fun ls hl => ?_)
          refine lv_goto (tgt := 6) hx hb dX8_lastLosingHeap_37 (by decide) ?_
          exact ih6 x1 x2 (x3 + 1) ls (lv_sub hl [1, 2, 3, 0] rfl) ht
        · have ht := it_n c3 ht
          refine lv_iload_n hx hb dX8_lastLosingHeap_32 rfl (lv_at hl 3 rfl) ?_
          refine lv_istore_n (lv' := [(1, .int x3), (0, .int p0), (2, .int x2), (3, .int x3)]) hx hb dX8_lastLosingHeap_33 rfl hl (by decide) rfl (fun ls hl => ?_)
          refine lv_iinc (v := x3 + 1) (lv' := [(3, .int (x3 + 1)), (1, .int x3), (0, .int p0), (2, .int x2)]) hx hb dX8_lastLosingHeap_34 hl (k := 3) rfl rfl (by decide) rfl (fun ls hl => ?_)
          refine lv_goto (tgt := 6) hx hb dX8_lastLosingHeap_37 (by decide) ?_
          exact ih6 x3 x2 (x3 + 1) ls (lv_sub hl [2, 1, 3, 0] rfl) ht
      refine lv_iload_n hx hb dX8_lastLosingHeap_6 rfl (lv_at hl 3 rfl) ?_
      refine lv_iload_n hx hb dX8_lastLosingHeap_7 rfl (lv_at hl 0 rfl) ?_
      refine lv_icmp_gt (tgt := 40) hx hb dX8_lastLosingHeap_8 (by decide) (fun c1 => ?_) (fun c1 => ?_)
      · have ht := it_p c1 ht
        refine lv_iload_n hx hb dX8_lastLosingHeap_40 rfl (lv_at hl 1 rfl) ?_
        subst hQ
        have ht := Option.some.inj ht
        exact W.iret (v := x1) hx hb hr (fun t e1 hW => ⟨_, rfl, ⟨ht, trivial⟩, e1⟩) (fun q h => absurd h List.not_mem_nil) dX8_lastLosingHeap_41
      · have ht := it_n c1 ht
        refine lv_iload_n hx hb dX8_lastLosingHeap_11 rfl (lv_at hl 2 rfl) ?_
        refine lv_iconst (v := 1) hx hb dX8_lastLosingHeap_12 (by decide) ?_
        refine lv_iadd hx hb dX8_lastLosingHeap_13 ?_
        refine lv_iload_n hx hb dX8_lastLosingHeap_14 rfl (lv_at hl 2 rfl) ?_
        refine lv_iconst (v := 1) hx hb dX8_lastLosingHeap_15 (by decide) ?_
        refine lv_iadd hx hb dX8_lastLosingHeap_16 ?_
        refine lv_imul hx hb dX8_lastLosingHeap_17 ?_
        refine lv_iload_n hx hb dX8_lastLosingHeap_18 rfl (lv_at hl 3 rfl) ?_
        refine lv_icmp_gt (tgt := 25) hx hb dX8_lastLosingHeap_19 (by decide) (fun c2 => ?_) (fun c2 => ?_)
        · have ht := it_p c2 ht
          exact J25 x1 x2 x3 ls (lv_sub hl [0, 1, 2, 3] rfl) ht
        · have ht := it_n c2 ht
          refine lv_iinc (v := x2 + 1) (lv' := [(2, .int (x2 + 1)), (0, .int p0), (1, .int x1), (3, .int x3)]) hx hb dX8_lastLosingHeap_22 hl (k := 2) rfl rfl (by decide) rfl (fun ls hl => ?_)
          exact J25 x1 (x2 + 1) x3 ls (lv_sub hl [1, 2, 0, 3] rfl) ht
  refine lv_iconst (v := 0) hx hb dX8_lastLosingHeap_0 (by decide) ?_
  refine lv_istore_n (lv' := [(1, .int 0), (0, .int p0)]) hx hb dX8_lastLosingHeap_1 rfl hl (by decide) rfl (fun ls hl => ?_)
  refine lv_iconst (v := 0) hx hb dX8_lastLosingHeap_2 (by decide) ?_
  refine lv_istore_n (lv' := [(2, .int 0), (1, .int 0), (0, .int p0)]) hx hb dX8_lastLosingHeap_3 rfl hl (by decide) rfl (fun ls hl => ?_)
  refine lv_iconst (v := 1) hx hb dX8_lastLosingHeap_4 (by decide) ?_
  refine lv_istore_n (lv' := [(3, .int 1), (2, .int 0), (1, .int 0), (0, .int p0)]) hx hb dX8_lastLosingHeap_5 rfl hl (by decide) rfl (fun ls hl => ?_)
  exact L6 5000 0 0 1 ls (lv_sub hl [3, 2, 1, 0] rfl) ht
abbrev rmX8_roots : Room := { frames := 1, cells := 0, slots := 0, locals := 23 }
set_option maxHeartbeats 4000000 in
set_option maxRecDepth 100000 in
theorem kX8_roots (l : Launch) (D : va_G) (cI cZ cO : ClassId) (dd : Nat → Nat → Nat) (p0 : Int32) (p1 : Int32) (tg : Int32) (ht : xX8_roots p0 p1 = some tg) : Met l yX8_roots wsX8_roots rmX8_roots (q_PR D cI cZ cO [.ref (dd 14 0), .int p0, .int p1] (wg8 dd)) (vp_Si (fun x => x = tg ∧ True)) 0 0 (fun _ => False) := by
  refine Met.ofW (cc := cX8_roots) (maxL := 4) (ret := (some .int)) (by decide) rfl ?_
  intro p e s m args below meth c s₁ B hml hv
  obtain ⟨rfl, hE, hP⟩ := hv
  have hx := B.exec
  have hb := B.bytes
  have hr := B.returns
  have hts := atoms_spec (ws := wsX8_roots) B.pre
  have hown : s.vm.findClass RX8 = some m.cls := findClass_of_methodNamed B.named
  have hlocks := B.notSynchronized
  have hl := lv_entry ([.ref (dd 14 0), .int p0, .int p1]) (n := 4) (Nat.le_of_ble_eq_true rfl)
  rw [lg_entry_eq]
  generalize (lg_sl ([.ref (dd 14 0), .int p0, .int p1]) ++ List.replicate (4 - (lg_sl ([.ref (dd 14 0), .int p0, .int p1])).length) Slot.unset).toArray = ls at hl ⊢
  have hl : lv_has ls 4 [(0, .ref (dd 14 0)), (1, .int p0), (2, .int p1)] := hl
  have ht := (xX8_roots_s p0 p1).symm.trans ht
  refine lv_iload_n hx hb dX8_roots_0 rfl (lv_at hl 1 rfl) ?_
  refine lv_iconst (v := 0) hx hb dX8_roots_1 (by decide) ?_
  refine lv_sipush (v := 999) hx hb dX8_roots_2 (by decide +kernel) ?_
  refine q_ri (va_runS (As := [.int p0, .int 0, .int 999]) (rest := []) ⟨hx, hb, hml, hown, hts⟩ (kX8_within l D cI cZ cO p0 0 999) (va_cwS 3 hts gX8_roots_X8_within rfl rfl rfl (by decide +kernel) ⟨Nat.le_of_ble_eq_true rfl, Nat.le_of_ble_eq_true rfl⟩) (q_rS hE q_nil) rfl rfl hl.1 rfl (lv_room (Nat.le_of_ble_eq_true rfl)) dX8_roots_5 ⟨Nat.le_of_ble_eq_true rfl, Nat.le_of_ble_eq_true rfl⟩) (fun b1 => ?_)
  refine lv_if_eq (tgt := 20) hx hb dX8_roots_8 (by decide) (fun c2 => ?_) (fun c2 => ?_)
  · have ht := it_p c2 ht
    refine lv_bipush (v := (-2)) hx hb dX8_roots_20 (by decide) ?_
    have ht := Option.some.inj ht
    exact W.iret (v := (-2)) hx hb hr (fun t e1 hW => ⟨_, rfl, ⟨ht, trivial⟩, e1⟩) (fun q h => absurd h List.not_mem_nil) dX8_roots_22
  · have ht := it_n c2 ht
    refine lv_iload_n hx hb dX8_roots_11 rfl (lv_at hl 2 rfl) ?_
    refine lv_iconst (v := 0) hx hb dX8_roots_12 (by decide) ?_
    refine lv_iconst (v := 1) hx hb dX8_roots_13 (by decide) ?_
    refine q_ri (va_runS (As := [.int p1, .int 0, .int 1]) (rest := []) ⟨hx, hb, hml, hown, hts⟩ (kX8_within l D cI cZ cO p1 0 1) (va_cwS 3 hts gX8_roots_X8_within rfl rfl rfl (by decide +kernel) ⟨Nat.le_of_ble_eq_true rfl, Nat.le_of_ble_eq_true rfl⟩) (q_rS hE q_nil) rfl rfl hl.1 rfl (lv_room (Nat.le_of_ble_eq_true rfl)) dX8_roots_14 ⟨Nat.le_of_ble_eq_true rfl, Nat.le_of_ble_eq_true rfl⟩) (fun b3 => ?_)
    refine lv_if_ne (tgt := 23) hx hb dX8_roots_17 (by decide) (fun c4 => ?_) (fun c4 => ?_)
    · have ht := it_n c4 ht
      refine lv_iload_n hx hb dX8_roots_23 rfl (lv_at hl 1 rfl) ?_
      refine lv_iload_n hx hb dX8_roots_24 rfl (lv_at hl 1 rfl) ?_
      obtain ⟨q5, hq5, ht⟩ := it_b ht
      refine q_ri (va_runS (As := [.int p0]) (rest := [.int p0]) ⟨hx, hb, hml, hown, hts⟩ (kX8_lastLosingHeap l D cI cZ cO p0 q5 hq5) (va_cwS 1 hts gX8_roots_X8_lastLosingHeap rfl rfl rfl (by decide +kernel) ⟨Nat.le_of_ble_eq_true rfl, Nat.le_of_ble_eq_true rfl⟩) (q_rS hE q_nil) rfl rfl hl.1 rfl (lv_room (Nat.le_of_ble_eq_true rfl)) dX8_roots_25 ⟨Nat.le_of_ble_eq_true rfl, Nat.le_of_ble_eq_true rfl⟩) (fun b6 => ?_)
      refine lv_isub hx hb dX8_roots_28 ?_
      refine lv_istore_n (lv' := [(3, .int (p0 - q5)), (0, .ref (dd 14 0)), (1, .int p0), (2, .int p1)]) hx hb dX8_roots_29 rfl hl (by decide) rfl (fun ls hl => ?_)
      refine lv_iload_n hx hb dX8_roots_30 rfl (lv_at hl 3 rfl) ?_
      refine lv_if_ne (tgt := 44) hx hb dX8_roots_31 (by decide) (fun c7 => ?_) (fun c7 => ?_)
      · have ht := it_n c7 ht
        refine lv_iload_n hx hb dX8_roots_44 rfl (lv_at hl 0 rfl) ?_
        refine lv_if_le (tgt := 52) hx hb dX8_roots_45 (by decide) (fun c8 => ?_) (fun c8 => ?_)
        · have ht := it_p c8 ht
          refine lv_bipush (v := (-6)) hx hb dX8_roots_52 (by decide) ?_
          have ht := Option.some.inj ht
          exact W.iret (v := (-6)) hx hb hr (fun t e1 hW => ⟨_, rfl, ⟨ht, trivial⟩, e1⟩) (fun q h => absurd h List.not_mem_nil) dX8_roots_54
        · have ht := it_n c8 ht
          refine lv_iload_n hx hb dX8_roots_48 rfl (lv_at hl 0 rfl) ?_
          refine lv_goto (tgt := 54) hx hb dX8_roots_49 (by decide) ?_
          have ht := Option.some.inj ht
          exact W.iret (v := p0 - q5) hx hb hr (fun t e1 hW => ⟨_, rfl, ⟨ht, trivial⟩, e1⟩) (fun q h => absurd h List.not_mem_nil) dX8_roots_54
      · have ht := it_p c7 ht
        refine lv_iload_n hx hb dX8_roots_34 rfl (lv_at hl 0 rfl) ?_
        refine lv_if_le (tgt := 42) hx hb dX8_roots_35 (by decide) (fun c9 => ?_) (fun c9 => ?_)
        · have ht := it_p c9 ht
          refine lv_iconst (v := 0) hx hb dX8_roots_42 (by decide) ?_
          have ht := Option.some.inj ht
          exact W.iret (v := 0) hx hb hr (fun t e1 hW => ⟨_, rfl, ⟨ht, trivial⟩, e1⟩) (fun q h => absurd h List.not_mem_nil) dX8_roots_43
        · have ht := it_n c9 ht
          refine lv_iconst (v := 1) hx hb dX8_roots_38 (by decide) ?_
          refine lv_goto (tgt := 43) hx hb dX8_roots_39 (by decide) ?_
          have ht := Option.some.inj ht
          exact W.iret (v := 1) hx hb hr (fun t e1 hW => ⟨_, rfl, ⟨ht, trivial⟩, e1⟩) (fun q h => absurd h List.not_mem_nil) dX8_roots_43
    · have ht := it_p c4 ht
      refine lv_bipush (v := (-2)) hx hb dX8_roots_20 (by decide) ?_
      have ht := Option.some.inj ht
      exact W.iret (v := (-2)) hx hb hr (fun t e1 hW => ⟨_, rfl, ⟨ht, trivial⟩, e1⟩) (fun q h => absurd h List.not_mem_nil) dX8_roots_22
abbrev rmX8_power : Room := { frames := 0, cells := 0, slots := 0, locals := 0 }
set_option maxHeartbeats 4000000 in
set_option maxRecDepth 100000 in
theorem kX8_power (l : Launch) (D : va_G) (cI cZ cO : ClassId) (p0 : Int64) (p1 : Int32) (tg : Int64) (ht : xX8_power p0 p1 = some tg) : Met l yX8_power wsX8_power rmX8_power (q_PR D cI cZ cO [.long p0, .int p1] ([] : va_W)) (vp_Sl (fun x => x = tg)) 0 0 (fun _ => False) := by
  refine Met.ofW (cc := cX8_power) (maxL := 6) (ret := (some .long)) (by decide) rfl ?_
  intro p e s m args below meth c s₁ B hml hv
  obtain ⟨rfl, hE, hP⟩ := hv
  have hx := B.exec
  have hb := B.bytes
  have hr := B.returns
  have hts := atoms_spec (ws := wsX8_power) B.pre
  have hown : s.vm.findClass RX8 = some m.cls := findClass_of_methodNamed B.named
  have hlocks := B.notSynchronized
  have hl := lv_entry ([.long p0, .int p1]) (n := 6) (Nat.le_of_ble_eq_true rfl)
  rw [lg_entry_eq]
  generalize (lg_sl ([.long p0, .int p1]) ++ List.replicate (6 - (lg_sl ([.long p0, .int p1])).length) Slot.unset).toArray = ls at hl ⊢
  have hl : lv_has ls 6 [(0, .long p0), (2, .int p1)] := hl
  have ht := (xX8_power_s p0 p1).symm.trans ht
  obtain ⟨Q, hQ⟩ : ∃ Q, Q = MQ below (vp_Sl (fun x => x = tg)) ([.long p0, .int p1] : List Value).toArray s 0 0 (fun _ => False) := ⟨_, rfl⟩
  rw [← hQ]
  have L5 : ∀ (n : Nat) (x3 : Int64) (x5 : Int32) (ls : Array Slot) (_ : lv_has ls 6 [(0, .long p0), (2, .int p1), (3, .long x3), (5, .int x5)]) (_ : xX8_power_h5 p0 p1 n x3 x5 = some tg), W p l e (headSpec wsX8_power rmX8_power).room s m ([.long p0, .int p1] : List Value).toArray below meth c s.heap [] 0 0 Q (F0 m 5 ls []) := by
    intro n
    induction n with
    | zero =>
      intro x3 x5 ls hl ht
      exact it_z ht
    | succ n5 ih5 =>
      intro x3 x5 ls hl ht
      have ht := (xX8_power_h5_s p0 p1 n5 x3 x5).symm.trans ht
      refine lv_iload hx hb dX8_power_5 (lv_at hl 3 rfl) ?_
      refine lv_iload_n hx hb dX8_power_7 rfl (lv_at hl 1 rfl) ?_
      refine lv_icmp_ge (tgt := 21) hx hb dX8_power_8 (by decide) (fun c1 => ?_) (fun c1 => ?_)
      · have ht := it_p c1 ht
        refine lv_lload_n hx hb dX8_power_21 rfl (lv_at hl 2 rfl) ?_
        subst hQ
        have ht := Option.some.inj ht
        exact W.lret (v := x3) hx hb hr (fun t e1 hW => ⟨_, rfl, ht, e1⟩) (fun q h => absurd h List.not_mem_nil) dX8_power_22
      · have ht := it_n c1 ht
        refine lv_lload_n hx hb dX8_power_11 rfl (lv_at hl 2 rfl) ?_
        refine lv_lload_n hx hb dX8_power_12 rfl (lv_at hl 0 rfl) ?_
        refine lv_lmul hx hb dX8_power_13 ?_
        refine lv_lstore_n (lv' := [(3, .long (x3 * p0)), (0, .long p0), (2, .int p1), (5, .int x5)]) hx hb dX8_power_14 rfl hl (by decide) rfl (fun ls hl => ?_)
        refine lv_iinc (v := x5 + 1) (lv' := [(5, .int (x5 + 1)), (3, .long (x3 * p0)), (0, .long p0), (2, .int p1)]) hx hb dX8_power_15 hl (k := 3) rfl rfl (by decide) rfl (fun ls hl => ?_)
        refine lv_goto (tgt := 5) hx hb dX8_power_18 (by decide) ?_
        exact ih5 (x3 * p0) (x5 + 1) ls (lv_sub hl [2, 3, 1, 0] rfl) ht
  refine lv_lconst (v := 1) hx hb dX8_power_0 (by decide) ?_
  refine lv_lstore_n (lv' := [(3, .long 1), (0, .long p0), (2, .int p1)]) hx hb dX8_power_1 rfl hl (by decide) rfl (fun ls hl => ?_)
  refine lv_iconst (v := 0) hx hb dX8_power_2 (by decide) ?_
  refine lv_istore (lv' := [(5, .int 0), (3, .long 1), (0, .long p0), (2, .int p1)]) hx hb dX8_power_3 hl (by decide) rfl (fun ls hl => ?_)
  exact L5 5000 1 0 ls (lv_sub hl [2, 3, 1, 0] rfl) ht
abbrev rmX8_choices : Room := { frames := 0, cells := 0, slots := 0, locals := 0 }
set_option maxHeartbeats 4000000 in
set_option maxRecDepth 100000 in
theorem kX8_choices (l : Launch) (D : va_G) (cI cZ cO : ClassId) (p0 : Int32) (p1 : Int32) (tg : Int64) (ht : xX8_choices p0 p1 = some tg) : Met l yX8_choices wsX8_choices rmX8_choices (q_PR D cI cZ cO [.int p0, .int p1] ([] : va_W)) (vp_Sl (fun x => x = tg)) 0 0 (fun _ => False) := by
  refine Met.ofW (cc := cX8_choices) (maxL := 5) (ret := (some .long)) (by decide) rfl ?_
  intro p e s m args below meth c s₁ B hml hv
  obtain ⟨rfl, hE, hP⟩ := hv
  have hx := B.exec
  have hb := B.bytes
  have hr := B.returns
  have hts := atoms_spec (ws := wsX8_choices) B.pre
  have hown : s.vm.findClass RX8 = some m.cls := findClass_of_methodNamed B.named
  have hlocks := B.notSynchronized
  have hl := lv_entry ([.int p0, .int p1]) (n := 5) (Nat.le_of_ble_eq_true rfl)
  rw [lg_entry_eq]
  generalize (lg_sl ([.int p0, .int p1]) ++ List.replicate (5 - (lg_sl ([.int p0, .int p1])).length) Slot.unset).toArray = ls at hl ⊢
  have hl : lv_has ls 5 [(0, .int p0), (1, .int p1)] := hl
  have ht := (xX8_choices_s p0 p1).symm.trans ht
  obtain ⟨Q, hQ⟩ : ∃ Q, Q = MQ below (vp_Sl (fun x => x = tg)) ([.int p0, .int p1] : List Value).toArray s 0 0 (fun _ => False) := ⟨_, rfl⟩
  rw [← hQ]
  have L5 : ∀ (n : Nat) (x2 : Int64) (x4 : Int32) (ls : Array Slot) (_ : lv_has ls 5 [(0, .int p0), (1, .int p1), (2, .long x2), (4, .int x4)]) (_ : xX8_choices_h5 p0 p1 n x2 x4 = some tg), W p l e (headSpec wsX8_choices rmX8_choices).room s m ([.int p0, .int p1] : List Value).toArray below meth c s.heap [] 0 0 Q (F0 m 5 ls []) := by
    intro n
    induction n with
    | zero =>
      intro x2 x4 ls hl ht
      exact it_z ht
    | succ n5 ih5 =>
      intro x2 x4 ls hl ht
      have ht := (xX8_choices_h5_s p0 p1 n5 x2 x4).symm.trans ht
      refine lv_iload hx hb dX8_choices_5 (lv_at hl 3 rfl) ?_
      refine lv_iload_n hx hb dX8_choices_7 rfl (lv_at hl 1 rfl) ?_
      refine lv_icmp_gt (tgt := 31) hx hb dX8_choices_8 (by decide) (fun c1 => ?_) (fun c1 => ?_)
      · have ht := it_p c1 ht
        refine lv_lload_n hx hb dX8_choices_31 rfl (lv_at hl 2 rfl) ?_
        subst hQ
        have ht := Option.some.inj ht
        exact W.lret (v := x2) hx hb hr (fun t e1 hW => ⟨_, rfl, ht, e1⟩) (fun q h => absurd h List.not_mem_nil) dX8_choices_32
      · have ht := it_n c1 ht
        refine lv_lload_n hx hb dX8_choices_11 rfl (lv_at hl 2 rfl) ?_
        refine lv_iload_n hx hb dX8_choices_12 rfl (lv_at hl 0 rfl) ?_
        refine lv_iload_n hx hb dX8_choices_13 rfl (lv_at hl 1 rfl) ?_
        refine lv_isub hx hb dX8_choices_14 ?_
        refine lv_iload hx hb dX8_choices_15 (lv_at hl 3 rfl) ?_
        refine lv_iadd hx hb dX8_choices_17 ?_
        refine lv_i2l (v := ((p0 - p1) + x4).toInt64) hx hb dX8_choices_18 rfl ?_
        refine lv_lmul hx hb dX8_choices_19 ?_
        refine lv_iload hx hb dX8_choices_20 (lv_at hl 3 rfl) ?_
        refine lv_i2l (v := x4.toInt64) hx hb dX8_choices_22 rfl ?_
        obtain ⟨g2, ht⟩ := it_d ht
        refine lv_ldiv hx hb dX8_choices_23 g2 ?_
        refine lv_lstore_n (lv' := [(2, .long ((x2 * (((p0 - p1) + x4).toInt64)) / x4.toInt64)), (0, .int p0), (1, .int p1), (4, .int x4)]) hx hb dX8_choices_24 rfl hl (by decide) rfl (fun ls hl => ?_)
        refine lv_iinc (v := x4 + 1) (lv' := [(4, .int (x4 + 1)), (2, .long ((x2 * (((p0 - p1) + x4).toInt64)) / x4.toInt64)), (0, .int p0), (1, .int p1)]) hx hb dX8_choices_25 hl (k := 3) rfl rfl (by decide) rfl (fun ls hl => ?_)
        refine lv_goto (tgt := 5) hx hb dX8_choices_28 (by decide) ?_
        exact ih5 ((x2 * (((p0 - p1) + x4).toInt64)) / x4.toInt64) (x4 + 1) ls (lv_sub hl [2, 3, 1, 0] rfl) ht
  refine lv_lconst (v := 1) hx hb dX8_choices_0 (by decide) ?_
  refine lv_lstore_n (lv' := [(2, .long 1), (0, .int p0), (1, .int p1)]) hx hb dX8_choices_1 rfl hl (by decide) rfl (fun ls hl => ?_)
  refine lv_iconst (v := 1) hx hb dX8_choices_2 (by decide) ?_
  refine lv_istore (lv' := [(4, .int 1), (2, .long 1), (0, .int p0), (1, .int p1)]) hx hb dX8_choices_3 hl (by decide) rfl (fun ls hl => ?_)
  exact L5 5000 1 1 ls (lv_sub hl [2, 3, 1, 0] rfl) ht
abbrev rmX8_derangements : Room := { frames := 0, cells := 0, slots := 0, locals := 0 }
set_option maxHeartbeats 4000000 in
set_option maxRecDepth 100000 in
theorem kX8_derangements (l : Launch) (D : va_G) (cI cZ cO : ClassId) (p0 : Int32) (tg : Int64) (ht : xX8_derangements p0 = some tg) : Met l yX8_derangements wsX8_derangements rmX8_derangements (q_PR D cI cZ cO [.int p0] ([] : va_W)) (vp_Sl (fun x => x = tg)) 0 0 (fun _ => False) := by
  refine Met.ofW (cc := cX8_derangements) (maxL := 8) (ret := (some .long)) (by decide) rfl ?_
  intro p e s m args below meth c s₁ B hml hv
  obtain ⟨rfl, hE, hP⟩ := hv
  have hx := B.exec
  have hb := B.bytes
  have hr := B.returns
  have hts := atoms_spec (ws := wsX8_derangements) B.pre
  have hown : s.vm.findClass RX8 = some m.cls := findClass_of_methodNamed B.named
  have hlocks := B.notSynchronized
  have hl := lv_entry ([.int p0]) (n := 8) (Nat.le_of_ble_eq_true rfl)
  rw [lg_entry_eq]
  generalize (lg_sl ([.int p0]) ++ List.replicate (8 - (lg_sl ([.int p0])).length) Slot.unset).toArray = ls at hl ⊢
  have hl : lv_has ls 8 [(0, .int p0)] := hl
  have ht := (xX8_derangements_s p0).symm.trans ht
  obtain ⟨Q, hQ⟩ : ∃ Q, Q = MQ below (vp_Sl (fun x => x = tg)) ([.int p0] : List Value).toArray s 0 0 (fun _ => False) := ⟨_, rfl⟩
  rw [← hQ]
  have L7 : ∀ (n : Nat) (x1 : Int64) (x3 : Int64) (x5 : Int32) (ls : Array Slot) (_ : lv_has ls 8 [(0, .int p0), (1, .long x1), (3, .long x3), (5, .int x5)]) (_ : xX8_derangements_h7 p0 n x1 x3 x5 = some tg), W p l e (headSpec wsX8_derangements rmX8_derangements).room s m ([.int p0] : List Value).toArray below meth c s.heap [] 0 0 Q (F0 m 7 ls []) := by
    intro n
    induction n with
    | zero =>
      intro x1 x3 x5 ls hl ht
      exact it_z ht
    | succ n7 ih7 =>
      intro x1 x3 x5 ls hl ht
      have ht := (xX8_derangements_h7_s p0 n7 x1 x3 x5).symm.trans ht
      refine lv_iload hx hb dX8_derangements_7 (lv_at hl 3 rfl) ?_
      refine lv_iload_n hx hb dX8_derangements_9 rfl (lv_at hl 0 rfl) ?_
      refine lv_icmp_gt (tgt := 35) hx hb dX8_derangements_10 (by decide) (fun c1 => ?_) (fun c1 => ?_)
      · have ht := it_p c1 ht
        refine lv_lload_n hx hb dX8_derangements_35 rfl (lv_at hl 2 rfl) ?_
        subst hQ
        have ht := Option.some.inj ht
        exact W.lret (v := x3) hx hb hr (fun t e1 hW => ⟨_, rfl, ht, e1⟩) (fun q h => absurd h List.not_mem_nil) dX8_derangements_36
      · have ht := it_n c1 ht
        refine lv_iload hx hb dX8_derangements_13 (lv_at hl 3 rfl) ?_
        refine lv_iconst (v := 1) hx hb dX8_derangements_15 (by decide) ?_
        refine lv_isub hx hb dX8_derangements_16 ?_
        refine lv_i2l (v := (x5 - 1).toInt64) hx hb dX8_derangements_17 rfl ?_
        refine lv_lload_n hx hb dX8_derangements_18 rfl (lv_at hl 2 rfl) ?_
        refine lv_lload_n hx hb dX8_derangements_19 rfl (lv_at hl 1 rfl) ?_
        refine lv_ladd hx hb dX8_derangements_20 ?_
        refine lv_lmul hx hb dX8_derangements_21 ?_
        refine lv_lstore (lv' := [(6, .long (((x5 - 1).toInt64) * (x3 + x1))), (0, .int p0), (1, .long x1), (3, .long x3), (5, .int x5)]) hx hb dX8_derangements_22 hl (by decide) rfl (fun ls hl => ?_)
        refine lv_lload_n hx hb dX8_derangements_24 rfl (lv_at hl 3 rfl) ?_
        refine lv_lstore_n (lv' := [(1, .long x3), (6, .long (((x5 - 1).toInt64) * (x3 + x1))), (0, .int p0), (3, .long x3), (5, .int x5)]) hx hb dX8_derangements_25 rfl hl (by decide) rfl (fun ls hl => ?_)
        refine lv_lload hx hb dX8_derangements_26 (lv_at hl 1 rfl) ?_
        refine lv_lstore_n (lv' := [(3, .long (((x5 - 1).toInt64) * (x3 + x1))), (1, .long x3), (6, .long (((x5 - 1).toInt64) * (x3 + x1))), (0, .int p0), (5, .int x5)]) hx hb dX8_derangements_28 rfl hl (by decide) rfl (fun ls hl => ?_)
        refine lv_iinc (v := x5 + 1) (lv' := [(5, .int (x5 + 1)), (3, .long (((x5 - 1).toInt64) * (x3 + x1))), (1, .long x3), (6, .long (((x5 - 1).toInt64) * (x3 + x1))), (0, .int p0)]) hx hb dX8_derangements_29 hl (k := 4) rfl rfl (by decide) rfl (fun ls hl => ?_)
        refine lv_goto (tgt := 7) hx hb dX8_derangements_32 (by decide) ?_
        exact ih7 x3 (((x5 - 1).toInt64) * (x3 + x1)) (x5 + 1) ls (lv_sub hl [4, 2, 1, 0] rfl) ht
  refine lv_lconst (v := 1) hx hb dX8_derangements_0 (by decide) ?_
  refine lv_lstore_n (lv' := [(1, .long 1), (0, .int p0)]) hx hb dX8_derangements_1 rfl hl (by decide) rfl (fun ls hl => ?_)
  refine lv_lconst (v := 0) hx hb dX8_derangements_2 (by decide) ?_
  refine lv_lstore_n (lv' := [(3, .long 0), (1, .long 1), (0, .int p0)]) hx hb dX8_derangements_3 rfl hl (by decide) rfl (fun ls hl => ?_)
  refine lv_iconst (v := 2) hx hb dX8_derangements_4 (by decide) ?_
  refine lv_istore (lv' := [(5, .int 2), (3, .long 0), (1, .long 1), (0, .int p0)]) hx hb dX8_derangements_5 hl (by decide) rfl (fun ls hl => ?_)
  exact L7 5000 1 0 2 ls (lv_sub hl [3, 2, 1, 0] rfl) ht
abbrev rmX8_commonDivisor : Room := { frames := 0, cells := 0, slots := 0, locals := 0 }
set_option maxHeartbeats 4000000 in
set_option maxRecDepth 100000 in
theorem kX8_commonDivisor (l : Launch) (D : va_G) (cI cZ cO : ClassId) (p0 : Int64) (p1 : Int64) (tg : Int64) (ht : xX8_commonDivisor p0 p1 = some tg) : Met l yX8_commonDivisor wsX8_commonDivisor rmX8_commonDivisor (q_PR D cI cZ cO [.long p0, .long p1] ([] : va_W)) (vp_Sl (fun x => x = tg)) 0 0 (fun _ => False) := by
  refine Met.ofW (cc := cX8_commonDivisor) (maxL := 11) (ret := (some .long)) (by decide) rfl ?_
  intro p e s m args below meth c s₁ B hml hv
  obtain ⟨rfl, hE, hP⟩ := hv
  have hx := B.exec
  have hb := B.bytes
  have hr := B.returns
  have hts := atoms_spec (ws := wsX8_commonDivisor) B.pre
  have hown : s.vm.findClass RX8 = some m.cls := findClass_of_methodNamed B.named
  have hlocks := B.notSynchronized
  have hl := lv_entry ([.long p0, .long p1]) (n := 11) (Nat.le_of_ble_eq_true rfl)
  rw [lg_entry_eq]
  generalize (lg_sl ([.long p0, .long p1]) ++ List.replicate (11 - (lg_sl ([.long p0, .long p1])).length) Slot.unset).toArray = ls at hl ⊢
  have hl : lv_has ls 11 [(0, .long p0), (2, .long p1)] := hl
  have ht := (xX8_commonDivisor_s p0 p1).symm.trans ht
  obtain ⟨Q, hQ⟩ : ∃ Q, Q = MQ below (vp_Sl (fun x => x = tg)) ([.long p0, .long p1] : List Value).toArray s 0 0 (fun _ => False) := ⟨_, rfl⟩
  rw [← hQ]
  have L9 : ∀ (n : Nat) (x4 : Int64) (x6 : Int64) (x8 : Int32) (ls : Array Slot) (_ : lv_has ls 11 [(4, .long x4), (6, .long x6), (8, .int x8)]) (_ : xX8_commonDivisor_h9 p0 p1 n x4 x6 x8 = some tg), W p l e (headSpec wsX8_commonDivisor rmX8_commonDivisor).room s m ([.long p0, .long p1] : List Value).toArray below meth c s.heap [] 0 0 Q (F0 m 9 ls []) := by
    intro n
    induction n with
    | zero =>
      intro x4 x6 x8 ls hl ht
      exact it_z ht
    | succ n9 ih9 =>
      intro x4 x6 x8 ls hl ht
      have ht := (xX8_commonDivisor_h9_s p0 p1 n9 x4 x6 x8).symm.trans ht
      refine lv_iload hx hb dX8_commonDivisor_9 (lv_at hl 2 rfl) ?_
      refine lv_sipush (v := 200) hx hb dX8_commonDivisor_11 (by decide +kernel) ?_
      refine lv_icmp_ge (tgt := 45) hx hb dX8_commonDivisor_14 (by decide) (fun c1 => ?_) (fun c1 => ?_)
      · have ht := it_p c1 ht
        refine lv_lload hx hb dX8_commonDivisor_45 (lv_at hl 0 rfl) ?_
        subst hQ
        have ht := Option.some.inj ht
        exact W.lret (v := x4) hx hb hr (fun t e1 hW => ⟨_, rfl, ht, e1⟩) (fun q h => absurd h List.not_mem_nil) dX8_commonDivisor_47
      · have ht := it_n c1 ht
        refine lv_lload hx hb dX8_commonDivisor_17 (lv_at hl 1 rfl) ?_
        refine lv_lconst (v := 0) hx hb dX8_commonDivisor_19 (by decide) ?_
        refine W.lcmp hx hb dX8_commonDivisor_20 ?_
        refine lv_if_eq (tgt := 45) hx hb dX8_commonDivisor_21 (by decide) (fun c2 => ?_) (fun c2 => ?_)
        · have ht := it_p c2 ht
          refine lv_lload hx hb dX8_commonDivisor_45 (lv_at hl 0 rfl) ?_
          subst hQ
          have ht := Option.some.inj ht
          exact W.lret (v := x4) hx hb hr (fun t e1 hW => ⟨_, rfl, ht, e1⟩) (fun q h => absurd h List.not_mem_nil) dX8_commonDivisor_47
        · have ht := it_n c2 ht
          refine lv_lload hx hb dX8_commonDivisor_24 (lv_at hl 0 rfl) ?_
          refine lv_lload hx hb dX8_commonDivisor_26 (lv_at hl 1 rfl) ?_
          obtain ⟨g3, ht⟩ := it_d ht
          refine q_lrem hx hb dX8_commonDivisor_28 g3 ?_
          refine lv_lstore (lv' := [(9, .long (q_reml x4 x6)), (4, .long x4), (6, .long x6), (8, .int x8)]) hx hb dX8_commonDivisor_29 hl (by decide) rfl (fun ls hl => ?_)
          refine lv_lload hx hb dX8_commonDivisor_31 (lv_at hl 2 rfl) ?_
          refine lv_lstore (lv' := [(4, .long x6), (9, .long (q_reml x4 x6)), (6, .long x6), (8, .int x8)]) hx hb dX8_commonDivisor_33 hl (by decide) rfl (fun ls hl => ?_)
          refine lv_lload hx hb dX8_commonDivisor_35 (lv_at hl 1 rfl) ?_
          refine lv_lstore (lv' := [(6, .long (q_reml x4 x6)), (4, .long x6), (9, .long (q_reml x4 x6)), (8, .int x8)]) hx hb dX8_commonDivisor_37 hl (by decide) rfl (fun ls hl => ?_)
          refine lv_iinc (v := x8 + 1) (lv' := [(8, .int (x8 + 1)), (6, .long (q_reml x4 x6)), (4, .long x6), (9, .long (q_reml x4 x6))]) hx hb dX8_commonDivisor_39 hl (k := 3) rfl rfl (by decide) rfl (fun ls hl => ?_)
          refine lv_goto (tgt := 9) hx hb dX8_commonDivisor_42 (by decide) ?_
          exact ih9 x6 (q_reml x4 x6) (x8 + 1) ls (lv_sub hl [2, 1, 0] rfl) ht
  refine lv_lload_n hx hb dX8_commonDivisor_0 rfl (lv_at hl 0 rfl) ?_
  refine lv_lstore (lv' := [(4, .long p0), (0, .long p0), (2, .long p1)]) hx hb dX8_commonDivisor_1 hl (by decide) rfl (fun ls hl => ?_)
  refine lv_lload_n hx hb dX8_commonDivisor_3 rfl (lv_at hl 2 rfl) ?_
  refine lv_lstore (lv' := [(6, .long p1), (4, .long p0), (0, .long p0), (2, .long p1)]) hx hb dX8_commonDivisor_4 hl (by decide) rfl (fun ls hl => ?_)
  refine lv_iconst (v := 0) hx hb dX8_commonDivisor_6 (by decide) ?_
  refine lv_istore (lv' := [(8, .int 0), (6, .long p1), (4, .long p0), (0, .long p0), (2, .long p1)]) hx hb dX8_commonDivisor_7 hl (by decide) rfl (fun ls hl => ?_)
  exact L9 5000 p0 p1 0 ls (lv_sub hl [2, 1, 0] rfl) ht
abbrev rmX8_thought : Room := { frames := 1, cells := 0, slots := 0, locals := 30 }
set_option maxHeartbeats 4000000 in
set_option maxRecDepth 100000 in
theorem kX8_thought (l : Launch) (D : va_G) (cI cZ cO : ClassId) (dd : Nat → Nat → Nat) (p0 : Int32) (p1 : Int32) (p2 : Int32) (p3 : Int32) (tg : Int64) (ht : xX8_thought p0 p1 p2 p3 = some tg) : Met l yX8_thought wsX8_thought rmX8_thought (q_PR D cI cZ cO [.ref (dd 14 0), .int p0, .int p1, .int p2, .int p3] (wg8 dd)) (vp_Sl (fun x => x = tg)) 0 0 (fun _ => False) := by
  refine Met.ofW (cc := cX8_thought) (maxL := 11) (ret := (some .long)) (by decide) rfl ?_
  intro p e s m args below meth c s₁ B hml hv
  obtain ⟨rfl, hE, hP⟩ := hv
  have hx := B.exec
  have hb := B.bytes
  have hr := B.returns
  have hts := atoms_spec (ws := wsX8_thought) B.pre
  have hown : s.vm.findClass RX8 = some m.cls := findClass_of_methodNamed B.named
  have hlocks := B.notSynchronized
  have hw0 := hts (.constantLong RX8 214 (-1000000000000000002)) (by decide +kernel)
  have hw1 := hts (.methodLink RX8 232 Lib.MathLoose.max_long.x) (by decide +kernel)
  have hw2 := hts (.static Lib.MathLoose.max_long.x) (by decide +kernel)
  have hw3 := hts (.initialized "java/lang/Math") (by decide +kernel)
  have hw4 := hts (.code Lib.MathLoose.max_long.x Lib.MathLoose.max_long.code 4 (some .long)) (by decide +kernel)
  have hl := lv_entry ([.ref (dd 14 0), .int p0, .int p1, .int p2, .int p3]) (n := 11) (Nat.le_of_ble_eq_true rfl)
  rw [lg_entry_eq]
  generalize (lg_sl ([.ref (dd 14 0), .int p0, .int p1, .int p2, .int p3]) ++ List.replicate (11 - (lg_sl ([.ref (dd 14 0), .int p0, .int p1, .int p2, .int p3])).length) Slot.unset).toArray = ls at hl ⊢
  have hl : lv_has ls 11 [(0, .ref (dd 14 0)), (1, .int p0), (2, .int p1), (3, .int p2), (4, .int p3)] := hl
  have ht := (xX8_thought_s p0 p1 p2 p3).symm.trans ht
  obtain ⟨Q, hQ⟩ : ∃ Q, Q = MQ below (vp_Sl (fun x => x = tg)) ([.ref (dd 14 0), .int p0, .int p1, .int p2, .int p3] : List Value).toArray s 0 0 (fun _ => False) := ⟨_, rfl⟩
  rw [← hQ]
  have J119 : ∀ (x5 : Int64) (x7 : Int64) (ls : Array Slot) (_ : lv_has ls 11 [(4, .int p3), (5, .long x5), (7, .long x7)]) (_ : xX8_thought_h119 p0 p1 p2 p3 x5 x7 = some tg), W p l e (headSpec wsX8_thought rmX8_thought).room s m ([.ref (dd 14 0), .int p0, .int p1, .int p2, .int p3] : List Value).toArray below meth c s.heap [] 0 0 Q (F0 m 119 ls []) := by
    intro x5 x7 ls hl ht
    have ht := (xX8_thought_h119_s p0 p1 p2 p3 x5 x7).symm.trans ht
    refine lv_lconst (v := 1) hx hb dX8_thought_119 (by decide) ?_
    refine lv_lload hx hb dX8_thought_120 (lv_at hl 1 rfl) ?_
    refine lv_lload hx hb dX8_thought_122 (lv_at hl 2 rfl) ?_
    obtain ⟨q17, hq17, ht⟩ := it_b ht
    refine q_rl (va_runS (As := [.long x5, .long x7]) (rest := [.long 1]) ⟨hx, hb, hml, hown, hts⟩ (kX8_commonDivisor l D cI cZ cO x5 x7 q17 hq17) (va_cwS 2 hts gX8_thought_X8_commonDivisor rfl rfl rfl (by decide +kernel) ⟨Nat.le_of_ble_eq_true rfl, Nat.le_of_ble_eq_true rfl⟩) (q_rS hE q_nil) rfl rfl hl.1 rfl (lv_room (Nat.le_of_ble_eq_true rfl)) dX8_thought_124 ⟨Nat.le_of_ble_eq_true rfl, Nat.le_of_ble_eq_true rfl⟩) ?_
    refine q_mmax_long hx hb (hml.trans hl.1.symm) hown hw1 hw2 hw3 hw4 (Nat.le_of_ble_eq_true rfl) (Nat.le_of_ble_eq_true rfl) (Nat.le_of_ble_eq_true rfl) (Nat.le_of_ble_eq_true rfl) dX8_thought_127 ?_
    refine lv_lstore (lv' := [(9, .long (q_mxl 1 q17)), (4, .int p3), (5, .long x5), (7, .long x7)]) hx hb dX8_thought_130 hl (by decide) rfl (fun ls hl => ?_)
    refine lv_iload hx hb dX8_thought_132 (lv_at hl 1 rfl) ?_
    refine lv_if_ne (tgt := 142) hx hb dX8_thought_134 (by decide) (fun c18 => ?_) (fun c18 => ?_)
    · have ht := it_n c18 ht
      refine lv_lload hx hb dX8_thought_142 (lv_at hl 3 rfl) ?_
      refine lv_lload hx hb dX8_thought_144 (lv_at hl 0 rfl) ?_
      obtain ⟨g19, ht⟩ := it_d ht
      refine lv_ldiv hx hb dX8_thought_146 g19 ?_
      subst hQ
      have ht := Option.some.inj ht
      exact W.lret (v := x7 / (q_mxl 1 q17)) hx hb hr (fun t e1 hW => ⟨_, rfl, ht, e1⟩) (fun q h => absurd h List.not_mem_nil) dX8_thought_147
    · have ht := it_p c18 ht
      refine lv_lload hx hb dX8_thought_137 (lv_at hl 2 rfl) ?_
      refine lv_goto (tgt := 144) hx hb dX8_thought_139 (by decide) ?_
      refine lv_lload hx hb dX8_thought_144 (lv_at hl 0 rfl) ?_
      obtain ⟨g20, ht⟩ := it_d ht
      refine lv_ldiv hx hb dX8_thought_146 g20 ?_
      subst hQ
      have ht := Option.some.inj ht
      exact W.lret (v := x5 / (q_mxl 1 q17)) hx hb hr (fun t e1 hW => ⟨_, rfl, ht, e1⟩) (fun q h => absurd h List.not_mem_nil) dX8_thought_147
  refine lv_iload_n hx hb dX8_thought_0 rfl (lv_at hl 1 rfl) ?_
  refine lv_iconst (v := 2) hx hb dX8_thought_1 (by decide) ?_
  refine lv_bipush (v := 12) hx hb dX8_thought_2 (by decide) ?_
  refine q_ri (va_runS (As := [.int p0, .int 2, .int 12]) (rest := []) ⟨hx, hb, hml, hown, hts⟩ (kX8_within l D cI cZ cO p0 2 12) (va_cwS 3 hts gX8_thought_X8_within rfl rfl rfl (by decide +kernel) ⟨Nat.le_of_ble_eq_true rfl, Nat.le_of_ble_eq_true rfl⟩) (q_rS hE q_nil) rfl rfl hl.1 rfl (lv_room (Nat.le_of_ble_eq_true rfl)) dX8_thought_4 ⟨Nat.le_of_ble_eq_true rfl, Nat.le_of_ble_eq_true rfl⟩) (fun b1 => ?_)
  refine lv_if_eq (tgt := 40) hx hb dX8_thought_7 (by decide) (fun c2 => ?_) (fun c2 => ?_)
  · have ht := it_p c2 ht
    refine lv_ldc2 hx hb hown hw0 dX8_thought_40 ?_
    subst hQ
    have ht := Option.some.inj ht
    exact W.lret (v := (-1000000000000000002)) hx hb hr (fun t e1 hW => ⟨_, rfl, ht, e1⟩) (fun q h => absurd h List.not_mem_nil) dX8_thought_43
  · have ht := it_n c2 ht
    refine lv_iload_n hx hb dX8_thought_10 rfl (lv_at hl 2 rfl) ?_
    refine lv_iconst (v := 0) hx hb dX8_thought_11 (by decide) ?_
    refine lv_iload_n hx hb dX8_thought_12 rfl (lv_at hl 1 rfl) ?_
    refine lv_iconst (v := 1) hx hb dX8_thought_13 (by decide) ?_
    refine lv_isub hx hb dX8_thought_14 ?_
    refine q_ri (va_runS (As := [.int p1, .int 0, .int (p0 - 1)]) (rest := []) ⟨hx, hb, hml, hown, hts⟩ (kX8_within l D cI cZ cO p1 0 (p0 - 1)) (va_cwS 3 hts gX8_thought_X8_within rfl rfl rfl (by decide +kernel) ⟨Nat.le_of_ble_eq_true rfl, Nat.le_of_ble_eq_true rfl⟩) (q_rS hE q_nil) rfl rfl hl.1 rfl (lv_room (Nat.le_of_ble_eq_true rfl)) dX8_thought_15 ⟨Nat.le_of_ble_eq_true rfl, Nat.le_of_ble_eq_true rfl⟩) (fun b3 => ?_)
    refine lv_if_eq (tgt := 40) hx hb dX8_thought_18 (by decide) (fun c4 => ?_) (fun c4 => ?_)
    · have ht := it_p c4 ht
      refine lv_ldc2 hx hb hown hw0 dX8_thought_40 ?_
      subst hQ
      have ht := Option.some.inj ht
      exact W.lret (v := (-1000000000000000002)) hx hb hr (fun t e1 hW => ⟨_, rfl, ht, e1⟩) (fun q h => absurd h List.not_mem_nil) dX8_thought_43
    · have ht := it_n c4 ht
      refine lv_iload_n hx hb dX8_thought_21 rfl (lv_at hl 3 rfl) ?_
      refine lv_iconst (v := 0) hx hb dX8_thought_22 (by decide) ?_
      refine lv_iconst (v := 2) hx hb dX8_thought_23 (by decide) ?_
      refine q_ri (va_runS (As := [.int p2, .int 0, .int 2]) (rest := []) ⟨hx, hb, hml, hown, hts⟩ (kX8_within l D cI cZ cO p2 0 2) (va_cwS 3 hts gX8_thought_X8_within rfl rfl rfl (by decide +kernel) ⟨Nat.le_of_ble_eq_true rfl, Nat.le_of_ble_eq_true rfl⟩) (q_rS hE q_nil) rfl rfl hl.1 rfl (lv_room (Nat.le_of_ble_eq_true rfl)) dX8_thought_24 ⟨Nat.le_of_ble_eq_true rfl, Nat.le_of_ble_eq_true rfl⟩) (fun b5 => ?_)
      refine lv_if_eq (tgt := 40) hx hb dX8_thought_27 (by decide) (fun c6 => ?_) (fun c6 => ?_)
      · have ht := it_p c6 ht
        refine lv_ldc2 hx hb hown hw0 dX8_thought_40 ?_
        subst hQ
        have ht := Option.some.inj ht
        exact W.lret (v := (-1000000000000000002)) hx hb hr (fun t e1 hW => ⟨_, rfl, ht, e1⟩) (fun q h => absurd h List.not_mem_nil) dX8_thought_43
      · have ht := it_n c6 ht
        refine lv_iload hx hb dX8_thought_30 (lv_at hl 4 rfl) ?_
        refine lv_iconst (v := 0) hx hb dX8_thought_32 (by decide) ?_
        refine lv_iconst (v := 1) hx hb dX8_thought_33 (by decide) ?_
        refine q_ri (va_runS (As := [.int p3, .int 0, .int 1]) (rest := []) ⟨hx, hb, hml, hown, hts⟩ (kX8_within l D cI cZ cO p3 0 1) (va_cwS 3 hts gX8_thought_X8_within rfl rfl rfl (by decide +kernel) ⟨Nat.le_of_ble_eq_true rfl, Nat.le_of_ble_eq_true rfl⟩) (q_rS hE q_nil) rfl rfl hl.1 rfl (lv_room (Nat.le_of_ble_eq_true rfl)) dX8_thought_34 ⟨Nat.le_of_ble_eq_true rfl, Nat.le_of_ble_eq_true rfl⟩) (fun b7 => ?_)
        refine lv_if_ne (tgt := 44) hx hb dX8_thought_37 (by decide) (fun c8 => ?_) (fun c8 => ?_)
        · have ht := it_n c8 ht
          refine lv_lconst (v := 1) hx hb dX8_thought_44 (by decide) ?_
          refine lv_lstore (lv' := [(5, .long 1), (0, .ref (dd 14 0)), (1, .int p0), (2, .int p1), (3, .int p2), (4, .int p3)]) hx hb dX8_thought_45 hl (by decide) rfl (fun ls hl => ?_)
          refine lv_iload_n hx hb dX8_thought_47 rfl (lv_at hl 2 rfl) ?_
          refine lv_iconst (v := 1) hx hb dX8_thought_48 (by decide) ?_
          refine lv_isub hx hb dX8_thought_49 ?_
          refine lv_i2l (v := (p0 - 1).toInt64) hx hb dX8_thought_50 rfl ?_
          refine lv_iconst (v := 2) hx hb dX8_thought_51 (by decide) ?_
          obtain ⟨q9, hq9, ht⟩ := it_b ht
          refine q_rl (va_runS (As := [.long ((p0 - 1).toInt64), .int 2]) (rest := []) ⟨hx, hb, hml, hown, hts⟩ (kX8_power l D cI cZ cO ((p0 - 1).toInt64) 2 q9 hq9) (va_cwS 2 hts gX8_thought_X8_power rfl rfl rfl (by decide +kernel) ⟨Nat.le_of_ble_eq_true rfl, Nat.le_of_ble_eq_true rfl⟩) (q_rS hE q_nil) rfl rfl hl.1 rfl (lv_room (Nat.le_of_ble_eq_true rfl)) dX8_thought_52 ⟨Nat.le_of_ble_eq_true rfl, Nat.le_of_ble_eq_true rfl⟩) ?_
          refine lv_lstore (lv' := [(7, .long q9), (5, .long 1), (0, .ref (dd 14 0)), (1, .int p0), (2, .int p1), (3, .int p2), (4, .int p3)]) hx hb dX8_thought_55 hl (by decide) rfl (fun ls hl => ?_)
          refine lv_iload_n hx hb dX8_thought_57 rfl (lv_at hl 5 rfl) ?_
          refine lv_if_ne (tgt := 98) hx hb dX8_thought_58 (by decide) (fun c10 => ?_) (fun c10 => ?_)
          · have ht := it_n c10 ht
            refine lv_iload_n hx hb dX8_thought_98 rfl (lv_at hl 5 rfl) ?_
            refine lv_iconst (v := 2) hx hb dX8_thought_99 (by decide) ?_
            refine lv_icmp_ne (tgt := 119) hx hb dX8_thought_100 (by decide) (fun c11 => ?_) (fun c11 => ?_)
            · have ht := it_n c11 ht
              exact J119 1 q9 ls (lv_sub hl [6, 1, 0] rfl) ht
            · have ht := it_p c11 ht
              refine lv_iload_n hx hb dX8_thought_103 rfl (lv_at hl 3 rfl) ?_
              obtain ⟨q12, hq12, ht⟩ := it_b ht
              refine q_rl (va_runS (As := [.int p0]) (rest := []) ⟨hx, hb, hml, hown, hts⟩ (kX8_derangements l D cI cZ cO p0 q12 hq12) (va_cwS 1 hts gX8_thought_X8_derangements rfl rfl rfl (by decide +kernel) ⟨Nat.le_of_ble_eq_true rfl, Nat.le_of_ble_eq_true rfl⟩) (q_rS hE q_nil) rfl rfl hl.1 rfl (lv_room (Nat.le_of_ble_eq_true rfl)) dX8_thought_104 ⟨Nat.le_of_ble_eq_true rfl, Nat.le_of_ble_eq_true rfl⟩) ?_
              refine lv_lstore (lv' := [(5, .long q12), (7, .long q9), (0, .ref (dd 14 0)), (1, .int p0), (2, .int p1), (3, .int p2), (4, .int p3)]) hx hb dX8_thought_107 hl (by decide) rfl (fun ls hl => ?_)
              refine lv_iload_n hx hb dX8_thought_109 rfl (lv_at hl 3 rfl) ?_
              refine lv_iconst (v := 1) hx hb dX8_thought_110 (by decide) ?_
              refine lv_isub hx hb dX8_thought_111 ?_
              refine lv_i2l (v := (p0 - 1).toInt64) hx hb dX8_thought_112 rfl ?_
              refine lv_iload_n hx hb dX8_thought_113 rfl (lv_at hl 3 rfl) ?_
              obtain ⟨q13, hq13, ht⟩ := it_b ht
              refine q_rl (va_runS (As := [.long ((p0 - 1).toInt64), .int p0]) (rest := []) ⟨hx, hb, hml, hown, hts⟩ (kX8_power l D cI cZ cO ((p0 - 1).toInt64) p0 q13 hq13) (va_cwS 2 hts gX8_thought_X8_power rfl rfl rfl (by decide +kernel) ⟨Nat.le_of_ble_eq_true rfl, Nat.le_of_ble_eq_true rfl⟩) (q_rS hE q_nil) rfl rfl hl.1 rfl (lv_room (Nat.le_of_ble_eq_true rfl)) dX8_thought_114 ⟨Nat.le_of_ble_eq_true rfl, Nat.le_of_ble_eq_true rfl⟩) ?_
              refine lv_lstore (lv' := [(7, .long q13), (5, .long q12), (0, .ref (dd 14 0)), (1, .int p0), (2, .int p1), (3, .int p2), (4, .int p3)]) hx hb dX8_thought_117 hl (by decide) rfl (fun ls hl => ?_)
              exact J119 q12 q13 ls (lv_sub hl [6, 1, 0] rfl) ht
          · have ht := it_p c10 ht
            refine lv_iload_n hx hb dX8_thought_61 rfl (lv_at hl 3 rfl) ?_
            refine lv_iconst (v := 1) hx hb dX8_thought_62 (by decide) ?_
            refine lv_isub hx hb dX8_thought_63 ?_
            refine lv_iload_n hx hb dX8_thought_64 rfl (lv_at hl 4 rfl) ?_
            obtain ⟨q14, hq14, ht⟩ := it_b ht
            refine q_rl (va_runS (As := [.int (p0 - 1), .int p1]) (rest := []) ⟨hx, hb, hml, hown, hts⟩ (kX8_choices l D cI cZ cO (p0 - 1) p1 q14 hq14) (va_cwS 2 hts gX8_thought_X8_choices rfl rfl rfl (by decide +kernel) ⟨Nat.le_of_ble_eq_true rfl, Nat.le_of_ble_eq_true rfl⟩) (q_rS hE q_nil) rfl rfl hl.1 rfl (lv_room (Nat.le_of_ble_eq_true rfl)) dX8_thought_65 ⟨Nat.le_of_ble_eq_true rfl, Nat.le_of_ble_eq_true rfl⟩) ?_
            refine lv_iload_n hx hb dX8_thought_68 rfl (lv_at hl 3 rfl) ?_
            refine lv_iconst (v := 2) hx hb dX8_thought_69 (by decide) ?_
            refine lv_isub hx hb dX8_thought_70 ?_
            refine lv_i2l (v := (p0 - 2).toInt64) hx hb dX8_thought_71 rfl ?_
            refine lv_iload_n hx hb dX8_thought_72 rfl (lv_at hl 3 rfl) ?_
            refine lv_iconst (v := 1) hx hb dX8_thought_73 (by decide) ?_
            refine lv_isub hx hb dX8_thought_74 ?_
            refine lv_iload_n hx hb dX8_thought_75 rfl (lv_at hl 4 rfl) ?_
            refine lv_isub hx hb dX8_thought_76 ?_
            obtain ⟨q15, hq15, ht⟩ := it_b ht
            refine q_rl (va_runS (As := [.long ((p0 - 2).toInt64), .int ((p0 - 1) - p1)]) (rest := [.long q14]) ⟨hx, hb, hml, hown, hts⟩ (kX8_power l D cI cZ cO ((p0 - 2).toInt64) ((p0 - 1) - p1) q15 hq15) (va_cwS 2 hts gX8_thought_X8_power rfl rfl rfl (by decide +kernel) ⟨Nat.le_of_ble_eq_true rfl, Nat.le_of_ble_eq_true rfl⟩) (q_rS hE q_nil) rfl rfl hl.1 rfl (lv_room (Nat.le_of_ble_eq_true rfl)) dX8_thought_77 ⟨Nat.le_of_ble_eq_true rfl, Nat.le_of_ble_eq_true rfl⟩) ?_
            refine lv_lmul hx hb dX8_thought_80 ?_
            refine lv_lstore (lv' := [(5, .long (q14 * q15)), (7, .long q9), (0, .ref (dd 14 0)), (1, .int p0), (2, .int p1), (3, .int p2), (4, .int p3)]) hx hb dX8_thought_81 hl (by decide) rfl (fun ls hl => ?_)
            refine lv_iload_n hx hb dX8_thought_83 rfl (lv_at hl 3 rfl) ?_
            refine lv_iconst (v := 1) hx hb dX8_thought_84 (by decide) ?_
            refine lv_isub hx hb dX8_thought_85 ?_
            refine lv_i2l (v := (p0 - 1).toInt64) hx hb dX8_thought_86 rfl ?_
            refine lv_iload_n hx hb dX8_thought_87 rfl (lv_at hl 3 rfl) ?_
            refine lv_iconst (v := 1) hx hb dX8_thought_88 (by decide) ?_
            refine lv_isub hx hb dX8_thought_89 ?_
            obtain ⟨q16, hq16, ht⟩ := it_b ht
            refine q_rl (va_runS (As := [.long ((p0 - 1).toInt64), .int (p0 - 1)]) (rest := []) ⟨hx, hb, hml, hown, hts⟩ (kX8_power l D cI cZ cO ((p0 - 1).toInt64) (p0 - 1) q16 hq16) (va_cwS 2 hts gX8_thought_X8_power rfl rfl rfl (by decide +kernel) ⟨Nat.le_of_ble_eq_true rfl, Nat.le_of_ble_eq_true rfl⟩) (q_rS hE q_nil) rfl rfl hl.1 rfl (lv_room (Nat.le_of_ble_eq_true rfl)) dX8_thought_90 ⟨Nat.le_of_ble_eq_true rfl, Nat.le_of_ble_eq_true rfl⟩) ?_
            refine lv_lstore (lv' := [(7, .long q16), (5, .long (q14 * q15)), (0, .ref (dd 14 0)), (1, .int p0), (2, .int p1), (3, .int p2), (4, .int p3)]) hx hb dX8_thought_93 hl (by decide) rfl (fun ls hl => ?_)
            refine lv_goto (tgt := 119) hx hb dX8_thought_95 (by decide) ?_
            exact J119 (q14 * q15) q16 ls (lv_sub hl [6, 1, 0] rfl) ht
        · have ht := it_p c8 ht
          refine lv_ldc2 hx hb hown hw0 dX8_thought_40 ?_
          subst hQ
          have ht := Option.some.inj ht
          exact W.lret (v := (-1000000000000000002)) hx hb hr (fun t e1 hW => ⟨_, rfl, ht, e1⟩) (fun q h => absurd h List.not_mem_nil) dX8_thought_43
