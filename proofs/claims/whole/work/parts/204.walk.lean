abbrev rmX8_storm : Room := { frames := 5, cells := 0, slots := 0, locals := 113 }
set_option maxHeartbeats 4000000 in
set_option maxRecDepth 100000 in
theorem kX8_storm (l : Launch) (D : va_G) (cI cZ cO : ClassId) (dd : Nat → Nat → Nat) (sz : Nat) (S0 : St) (S2 : St) (S3 : St) (S4 : St) (p0 : Int32) (p1 : Int32) (p2 : Int32) (tg : Int32 × St × St × St) (ht : xX8_storm S0 p0 p1 p2 S2 S3 S4 = some tg) : Met l yX8_storm wsX8_storm rmX8_storm (q_PM D cI cZ cO [.ref (dd 14 0), .int p0, .int p1, .int p2] sz (wg5 cI cZ (dd 0) S0 ++ (wg3 (dd 2) (dd 3) (dd 4) S2 ++ (wg5 cI cZ (dd 3) S3 ++ (wg0 cI cZ (dd 4) S4 ++ (wg8 dd)))))) (va_Qi (fun x (_ : Unit) => x = tg.1 ∧ True) (fun _ t => va_P D vwCl (wg5 cI cZ (dd 0) S0 ++ (wg3 (dd 2) (dd 3) (dd 4) tg.2.1 ++ (wg5 cI cZ (dd 3) tg.2.2.1 ++ (wg0 cI cZ (dd 4) tg.2.2.2 ++ (wg8 dd))))) t.heap) (va_A (wg5 cI cZ (dd 0) S0 ++ (wg3 (dd 2) (dd 3) (dd 4) S2 ++ (wg5 cI cZ (dd 3) S3 ++ (wg0 cI cZ (dd 4) S4 ++ (wg8 dd))))) sz)) 0 0 (va_A (wg5 cI cZ (dd 0) S0 ++ (wg3 (dd 2) (dd 3) (dd 4) S2 ++ (wg5 cI cZ (dd 3) S3 ++ (wg0 cI cZ (dd 4) S4 ++ (wg8 dd))))) sz) := by
  refine Met.ofW (cc := cX8_storm) (maxL := 4) (ret := (some .int)) (by decide) rfl ?_
  intro p e s m args below meth c s₁ B hml hv
  obtain ⟨rfl, hsz, hE, hP, hD0⟩ := hv
  have hx := B.exec
  have hb := B.bytes
  have hr := B.returns
  have hts := atoms_spec (ws := wsX8_storm) B.pre
  have hown : s.vm.findClass RX8 = some m.cls := findClass_of_methodNamed B.named
  have hlocks := B.notSynchronized
  have hi8 : ∀ w ∈ u_ws RX8 TX8 7, w ∈ wsX8_storm := by decide +kernel
  have hi3 : ∀ w ∈ u_ws RX3 TX3 8, w ∈ wsX8_storm := by decide +kernel
  have hw0 := hts (.fieldLink RX8 26 "HailNames" "outcome" "LHailNames$Outcome;") (by decide +kernel)
  have hw1 := hts (.fieldLink RX8 10 "HailNames" "now" "LHailNames$Plain;") (by decide +kernel)
  have hw2 := hts (.fieldLink RX8 125 "HailNames$Outcome" "after" "LHailNames$Plain;") (by decide +kernel)
  have hw3 := hts (.fieldLink RX8 122 "HailNames$Outcome" "stonesLost" "I") (by decide +kernel)
  subst hsz
  have hD1 := hD0.self (sz := s.heap.size)
  generalize hAe : va_A (wg5 cI cZ (dd 0) S0 ++ (wg3 (dd 2) (dd 3) (dd 4) S2 ++ (wg5 cI cZ (dd 3) S3 ++ (wg0 cI cZ (dd 4) S4 ++ (wg8 dd))))) s.heap.size = A at hD1 ⊢
  have hA : ∀ q : Nat, s.heap.size ≤ q → A q := fun q h => by rw [← hAe]; exact Or.inr h
  have hS : va_S A s.heap s.heap [] := va_S.rf
  have hD : ∀ (S0 : St) (S2 : St) (S3 : St) (S4 : St), va_D A (wg5 cI cZ (dd 0) S0 ++ (wg3 (dd 2) (dd 3) (dd 4) S2 ++ (wg5 cI cZ (dd 3) S3 ++ (wg0 cI cZ (dd 4) S4 ++ (wg8 dd))))) := fun S0 S2 S3 S4 => q_D hD1 rfl
  have hl := lv_entry ([.ref (dd 14 0), .int p0, .int p1, .int p2]) (n := 4) (Nat.le_of_ble_eq_true rfl)
  rw [lg_entry_eq]
  generalize (lg_sl ([.ref (dd 14 0), .int p0, .int p1, .int p2]) ++ List.replicate (4 - (lg_sl ([.ref (dd 14 0), .int p0, .int p1, .int p2])).length) Slot.unset).toArray = ls at hl ⊢
  have hl : lv_has ls 4 [(0, .ref (dd 14 0)), (1, .int p0), (2, .int p1), (3, .int p2)] := hl
  have ht := (xX8_storm_s S0 p0 p1 p2 S2 S3 S4).symm.trans ht
  refine lv_iload_n hx hb dX8_storm_0 rfl (lv_at hl 1 rfl) ?_
  refine lv_iconst (v := 0) hx hb dX8_storm_1 (by decide) ?_
  refine lv_sipush (v := 9999) hx hb dX8_storm_2 (by decide +kernel) ?_
  refine q_ri (va_runS (As := [.int p0, .int 0, .int 9999]) (rest := []) ⟨hx, hb, hml, hown, hts⟩ (kX8_within l D cI cZ cO p0 0 9999) (va_cwS 3 hts gX8_storm_X8_within rfl rfl rfl (by decide +kernel) ⟨Nat.le_of_ble_eq_true rfl, Nat.le_of_ble_eq_true rfl⟩) (q_rS hE q_nil) rfl rfl hl.1 rfl (lv_room (Nat.le_of_ble_eq_true rfl)) dX8_storm_5 ⟨Nat.le_of_ble_eq_true rfl, Nat.le_of_ble_eq_true rfl⟩) (fun b1 => ?_)
  refine lv_if_eq (tgt := 30) hx hb dX8_storm_8 (by decide) (fun c2 => ?_) (fun c2 => ?_)
  · have ht := it_p c2 ht
    refine lv_bipush (v := (-2)) hx hb dX8_storm_30 (by decide) ?_
    obtain rfl := Option.some.inj ht
    exact W.iret (v := (-2)) hx hb hr (fun t e1 hW => ⟨⟨_, (), rfl, ⟨rfl, trivial⟩, q_at e1 hP⟩, hS.F e1⟩) hS.2.2 dX8_storm_32
  · have ht := it_n c2 ht
    refine lv_iload_n hx hb dX8_storm_11 rfl (lv_at hl 2 rfl) ?_
    refine lv_iconst (v := 1) hx hb dX8_storm_12 (by decide) ?_
    refine lv_bipush (v := 99) hx hb dX8_storm_13 (by decide) ?_
    refine q_ri (va_runS (As := [.int p1, .int 1, .int 99]) (rest := []) ⟨hx, hb, hml, hown, hts⟩ (kX8_within l D cI cZ cO p1 1 99) (va_cwS 3 hts gX8_storm_X8_within rfl rfl rfl (by decide +kernel) ⟨Nat.le_of_ble_eq_true rfl, Nat.le_of_ble_eq_true rfl⟩) (q_rS hE q_nil) rfl rfl hl.1 rfl (lv_room (Nat.le_of_ble_eq_true rfl)) dX8_storm_15 ⟨Nat.le_of_ble_eq_true rfl, Nat.le_of_ble_eq_true rfl⟩) (fun b3 => ?_)
    refine lv_if_eq (tgt := 30) hx hb dX8_storm_18 (by decide) (fun c4 => ?_) (fun c4 => ?_)
    · have ht := it_p c4 ht
      refine lv_bipush (v := (-2)) hx hb dX8_storm_30 (by decide) ?_
      obtain rfl := Option.some.inj ht
      exact W.iret (v := (-2)) hx hb hr (fun t e1 hW => ⟨⟨_, (), rfl, ⟨rfl, trivial⟩, q_at e1 hP⟩, hS.F e1⟩) hS.2.2 dX8_storm_32
    · have ht := it_n c4 ht
      refine lv_iload_n hx hb dX8_storm_21 rfl (lv_at hl 3 rfl) ?_
      refine lv_iconst (v := 0) hx hb dX8_storm_22 (by decide) ?_
      refine lv_iconst (v := 2) hx hb dX8_storm_23 (by decide) ?_
      refine q_ri (va_runS (As := [.int p2, .int 0, .int 2]) (rest := []) ⟨hx, hb, hml, hown, hts⟩ (kX8_within l D cI cZ cO p2 0 2) (va_cwS 3 hts gX8_storm_X8_within rfl rfl rfl (by decide +kernel) ⟨Nat.le_of_ble_eq_true rfl, Nat.le_of_ble_eq_true rfl⟩) (q_rS hE q_nil) rfl rfl hl.1 rfl (lv_room (Nat.le_of_ble_eq_true rfl)) dX8_storm_24 ⟨Nat.le_of_ble_eq_true rfl, Nat.le_of_ble_eq_true rfl⟩) (fun b5 => ?_)
      refine lv_if_ne (tgt := 33) hx hb dX8_storm_27 (by decide) (fun c6 => ?_) (fun c6 => ?_)
      · have ht := it_n c6 ht
        refine lv_aload_n hx hb dX8_storm_33 rfl (lv_at hl 0 rfl) ?_
        refine va_get (D := D) (ci := 8) (v := .ref (dd 2 0)) (C := RX8) (T := TX8) (N := 7) hx hb hts hi8 hown hE.1 hP 22 rfl rfl 2 (by decide) hw0 (fun _ h9 => h9) rfl dX8_storm_34 ?_
        refine lv_aload_n hx hb dX8_storm_37 rfl (lv_at hl 0 rfl) ?_
        refine va_get (D := D) (ci := 8) (v := .ref (dd 0 0)) (C := RX8) (T := TX8) (N := 7) hx hb hts hi8 hown hE.1 hP 22 rfl rfl 0 (by decide) hw1 (fun _ h9 => h9) rfl dX8_storm_38 ?_
        obtain ⟨q7, hq7, ht⟩ := it_b ht
        have hPc : va_P D vwCl (wg3 (dd 2) (dd 3) (dd 4) S2 ++ (wg5 cI cZ (dd 3) S3 ++ (wg5 cI cZ (dd 0) S0))) s.heap := hP.sub [10, 11, 12, 13, 14, 15, 16, 17, 18, 19, 20, 0, 1, 2, 3, 4, 5, 6, 7, 8, 9] rfl
        have hDc : va_D A (wg3 (dd 2) (dd 3) (dd 4) S2 ++ (wg5 cI cZ (dd 3) S3 ++ (wg5 cI cZ (dd 0) S0))) := ((hD S0 S2 S3 S4)).sub [10, 11, 12, 13, 14, 15, 16, 17, 18, 19, 20, 0, 1, 2, 3, 4, 5, 6, 7, 8, 9] (by decide) rfl
        have hFc := va_free (wc := (wg3 (dd 2) (dd 3) (dd 4) S2 ++ (wg5 cI cZ (dd 3) S3 ++ (wg5 cI cZ (dd 0) S0)))) (hD S0 S2 S3 S4) hS hA [10, 11, 12, 13, 14, 15, 16, 17, 18, 19, 20, 0, 1, 2, 3, 4, 5, 6, 7, 8, 9] rfl
        refine q_mv (va_runV (As := [.ref (dd 0 0)]) (rest := []) ⟨hx, hb, hml, hown, hts⟩ (kX3_startFrom l D cI cZ cO (dd 2) (dd 3) (dd 4) (dd 0) s.heap.size S2 S3 S0 q7 hq7) (cwV 1 hts gX8_storm_X3_startFrom rfl rfl rfl (by decide +kernel) ⟨Nat.le_of_ble_eq_true rfl, Nat.le_of_ble_eq_true rfl⟩) (q_mV (As := [.ref (dd 0 0)]) hE hPc hDc (q0 := 0) (ci := 3) rfl rfl) rfl rfl hl.1 rfl (lv_room (Nat.le_of_ble_eq_true rfl)) dX8_storm_41 ⟨Nat.le_of_ble_eq_true rfl, Nat.le_of_ble_eq_true rfl⟩) hS hFc (fun H locs hP1 hk hS => ?_)
        have hP : va_P D vwCl (wg5 cI cZ (dd 0) S0 ++ (wg3 (dd 2) (dd 3) (dd 4) q7.1 ++ (wg5 cI cZ (dd 3) q7.2 ++ (wg0 cI cZ (dd 4) S4 ++ (wg8 dd))))) H := (q_join (wr := (wg0 cI cZ (dd 4) S4 ++ (wg8 dd))) hP (hD S0 S2 S3 S4) [10, 11, 12, 13, 14, 15, 16, 17, 18, 19, 20, 0, 1, 2, 3, 4, 5, 6, 7, 8, 9] [21, 22] rfl rfl (by decide) (by decide) hk hFc hP1 hDc rfl).sub [13, 14, 15, 16, 17, 18, 19, 20, 21, 22, 2, 3, 4, 5, 6, 7, 8, 9, 10, 11, 12, 0, 1] rfl
        refine lv_aload_n hx hb dX8_storm_44 rfl (lv_at hl 0 rfl) ?_
        refine va_get (D := D) (ci := 8) (v := .ref (dd 2 0)) (C := RX8) (T := TX8) (N := 7) hx hb hts hi8 hown hE.1 hP 22 rfl rfl 2 (by decide) hw0 (fun _ h9 => h9) rfl dX8_storm_45 ?_
        refine lv_iload_n hx hb dX8_storm_48 rfl (lv_at hl 1 rfl) ?_
        refine lv_iload_n hx hb dX8_storm_49 rfl (lv_at hl 2 rfl) ?_
        obtain ⟨q8, hq8, ht⟩ := it_b ht
        have hPc : va_P D vwCl (wg3 (dd 2) (dd 3) (dd 4) q7.1 ++ (wg5 cI cZ (dd 3) q7.2 ++ (wg0 cI cZ (dd 4) S4))) H := hP.sub [10, 11, 12, 13, 14, 15, 16, 17, 18, 19, 20, 21] rfl
        have hDc : va_D A (wg3 (dd 2) (dd 3) (dd 4) q7.1 ++ (wg5 cI cZ (dd 3) q7.2 ++ (wg0 cI cZ (dd 4) S4))) := ((hD S0 q7.1 q7.2 S4)).sub [10, 11, 12, 13, 14, 15, 16, 17, 18, 19, 20, 21] (by decide) rfl
        have hFc := va_free (wc := (wg3 (dd 2) (dd 3) (dd 4) q7.1 ++ (wg5 cI cZ (dd 3) q7.2 ++ (wg0 cI cZ (dd 4) S4)))) (hD S0 q7.1 q7.2 S4) hS hA [10, 11, 12, 13, 14, 15, 16, 17, 18, 19, 20, 21] rfl
        refine q_mv (va_runV (As := [.int p0, .int p1]) (rest := []) ⟨hx, hb, hml, hown, hts⟩ (kX3_followDraws l D cI cZ cO (dd 2) (dd 3) (dd 4) H.size q7.1 q7.2 S4 p0 p1 q8 hq8) (cwV 2 hts gX8_storm_X3_followDraws rfl rfl rfl (by decide +kernel) ⟨Nat.le_of_ble_eq_true rfl, Nat.le_of_ble_eq_true rfl⟩) (q_mV (As := [.int p0, .int p1]) hE hPc hDc (q0 := 0) (ci := 3) rfl rfl) rfl rfl hl.1 rfl (lv_room (Nat.le_of_ble_eq_true rfl)) dX8_storm_50 ⟨Nat.le_of_ble_eq_true rfl, Nat.le_of_ble_eq_true rfl⟩) hS hFc (fun H locs hP1 hk hS => ?_)
        have hP : va_P D vwCl (wg5 cI cZ (dd 0) S0 ++ (wg3 (dd 2) (dd 3) (dd 4) q8.1 ++ (wg5 cI cZ (dd 3) q8.2.1 ++ (wg0 cI cZ (dd 4) q8.2.2 ++ (wg8 dd))))) H := (q_join (wr := (wg5 cI cZ (dd 0) S0 ++ (wg8 dd))) hP (hD S0 q7.1 q7.2 S4) [10, 11, 12, 13, 14, 15, 16, 17, 18, 19, 20, 21] [0, 1, 2, 3, 4, 5, 6, 7, 8, 9, 22] rfl rfl (by decide) (by decide) hk hFc hP1 hDc rfl).sub [0, 1, 2, 3, 4, 5, 6, 7, 8, 9, 11, 12, 13, 14, 15, 16, 17, 18, 19, 20, 21, 22, 10] rfl
        refine lv_iload_n hx hb dX8_storm_53 rfl (lv_at hl 3 rfl) ?_
        refine lv_if_ne (tgt := 68) hx hb dX8_storm_54 (by decide) (fun c9 => ?_) (fun c9 => ?_)
        · have ht := it_n c9 ht
          refine lv_iload_n hx hb dX8_storm_68 rfl (lv_at hl 3 rfl) ?_
          refine lv_iconst (v := 1) hx hb dX8_storm_69 (by decide) ?_
          refine lv_icmp_ne (tgt := 83) hx hb dX8_storm_70 (by decide) (fun c10 => ?_) (fun c10 => ?_)
          · have ht := it_n c10 ht
            refine lv_aload_n hx hb dX8_storm_83 rfl (lv_at hl 0 rfl) ?_
            refine va_get (D := D) (ci := 8) (v := .ref (dd 2 0)) (C := RX8) (T := TX8) (N := 7) hx hb hts hi8 hown hE.1 hP 22 rfl rfl 2 (by decide) hw0 (fun _ h9 => h9) rfl dX8_storm_84 ?_
            refine va_get (D := D) (ci := 3) (v := .ref (dd 3 0)) (C := RX3) (T := TX3) (N := 8) hx hb hts hi3 hown hE.1 hP 10 rfl rfl 0 (by decide) hw2 (fun _ h9 => h9) rfl dX8_storm_87 ?_
            obtain ⟨q11, hq11, ht⟩ := it_b ht
            have hPc : va_P D vwCl (wg5 cI cZ (dd 3) q8.2.1) H := hP.sub [11, 12, 13, 14, 15, 16, 17, 18, 19, 20] rfl
            refine q_ri (va_runV (As := []) (rest := []) ⟨hx, hb, hml, hown, hts⟩ (kX5_notedAdded l D cI cZ cO (dd 3) q8.2.1 q11 hq11) (cwV 0 hts gX8_storm_X5_notedAdded rfl rfl rfl (by decide +kernel) ⟨Nat.le_of_ble_eq_true rfl, Nat.le_of_ble_eq_true rfl⟩) (q_rV (As := []) hE hPc (q0 := 0) (ci := 5) rfl rfl) rfl rfl hl.1 rfl (lv_room (Nat.le_of_ble_eq_true rfl)) dX8_storm_90 ⟨Nat.le_of_ble_eq_true rfl, Nat.le_of_ble_eq_true rfl⟩) (fun b12 => ?_)
            obtain rfl := Option.some.inj ht
            exact W.iret (v := q11) hx hb hr (fun t e1 hW => ⟨⟨_, (), rfl, ⟨rfl, trivial⟩, q_at e1 hP⟩, hS.F e1⟩) hS.2.2 dX8_storm_93
          · have ht := it_p c10 ht
            refine lv_aload_n hx hb dX8_storm_73 rfl (lv_at hl 0 rfl) ?_
            refine va_get (D := D) (ci := 8) (v := .ref (dd 2 0)) (C := RX8) (T := TX8) (N := 7) hx hb hts hi8 hown hE.1 hP 22 rfl rfl 2 (by decide) hw0 (fun _ h9 => h9) rfl dX8_storm_74 ?_
            refine va_get (D := D) (ci := 3) (v := .int (q8.1 5 0)) (C := RX3) (T := TX3) (N := 8) hx hb hts hi3 hown hE.1 hP 10 rfl rfl 5 (by decide) hw3 (fun _ h9 => h9) rfl dX8_storm_77 ?_
            refine lv_goto (tgt := 93) hx hb dX8_storm_80 (by decide) ?_
            obtain rfl := Option.some.inj ht
            exact W.iret (v := q8.1 5 0) hx hb hr (fun t e1 hW => ⟨⟨_, (), rfl, ⟨rfl, trivial⟩, q_at e1 hP⟩, hS.F e1⟩) hS.2.2 dX8_storm_93
        · have ht := it_p c9 ht
          refine lv_aload_n hx hb dX8_storm_57 rfl (lv_at hl 0 rfl) ?_
          refine va_get (D := D) (ci := 8) (v := .ref (dd 2 0)) (C := RX8) (T := TX8) (N := 7) hx hb hts hi8 hown hE.1 hP 22 rfl rfl 2 (by decide) hw0 (fun _ h9 => h9) rfl dX8_storm_58 ?_
          refine va_get (D := D) (ci := 3) (v := .ref (dd 3 0)) (C := RX3) (T := TX3) (N := 8) hx hb hts hi3 hown hE.1 hP 10 rfl rfl 0 (by decide) hw2 (fun _ h9 => h9) rfl dX8_storm_61 ?_
          obtain ⟨q13, hq13, ht⟩ := it_b ht
          have hPc : va_P D vwCl (wg5 cI cZ (dd 3) q8.2.1) H := hP.sub [11, 12, 13, 14, 15, 16, 17, 18, 19, 20] rfl
          refine q_ri (va_runV (As := []) (rest := []) ⟨hx, hb, hml, hown, hts⟩ (kX5_lyingStones l D cI cZ cO (dd 3) q8.2.1 q13 hq13) (cwV 0 hts gX8_storm_X5_lyingStones rfl rfl rfl (by decide +kernel) ⟨Nat.le_of_ble_eq_true rfl, Nat.le_of_ble_eq_true rfl⟩) (q_rV (As := []) hE hPc (q0 := 0) (ci := 5) rfl rfl) rfl rfl hl.1 rfl (lv_room (Nat.le_of_ble_eq_true rfl)) dX8_storm_64 ⟨Nat.le_of_ble_eq_true rfl, Nat.le_of_ble_eq_true rfl⟩) (fun b14 => ?_)
          obtain rfl := Option.some.inj ht
          exact W.iret (v := q13) hx hb hr (fun t e1 hW => ⟨⟨_, (), rfl, ⟨rfl, trivial⟩, q_at e1 hP⟩, hS.F e1⟩) hS.2.2 dX8_storm_67
      · have ht := it_p c6 ht
        refine lv_bipush (v := (-2)) hx hb dX8_storm_30 (by decide) ?_
        obtain rfl := Option.some.inj ht
        exact W.iret (v := (-2)) hx hb hr (fun t e1 hW => ⟨⟨_, (), rfl, ⟨rfl, trivial⟩, q_at e1 hP⟩, hS.F e1⟩) hS.2.2 dX8_storm_32
abbrev rmX8_image : Room := { frames := 2, cells := 0, slots := 0, locals := 82 }
set_option maxHeartbeats 4000000 in
set_option maxRecDepth 100000 in
theorem kX8_image (l : Launch) (D : va_G) (cI cZ cO : ClassId) (dd : Nat → Nat → Nat) (sz : Nat) (S0 : St) (S6 : St) (S8 : St) (S9 : St) (S10 : St) (S11 : St) (S12 : St) (S13 : St) (p0 : Int32) (tg : Int32 × St × St × St × St × St × St) (ht : xX8_image S0 S6 p0 S8 S9 S10 S11 S12 S13 = some tg) : Met l yX8_image wsX8_image rmX8_image (q_PM D cI cZ cO [.ref (dd 14 0), .int p0] sz (wg5 cI cZ (dd 0) S0 ++ (wg7 cI cZ (dd 6) S6 ++ (wg1 (dd 8) (dd 9) (dd 10) S8 ++ (wg5 cI cZ (dd 9) S9 ++ (wg7 cI cZ (dd 10) S10 ++ (wg1 (dd 11) (dd 12) (dd 13) S11 ++ (wg5 cI cZ (dd 12) S12 ++ (wg7 cI cZ (dd 13) S13 ++ (wg8 dd ++ (wgi cO dd))))))))))) (va_Qi (fun x (_ : Unit) => x = tg.1 ∧ True) (fun _ t => va_P D vwCl (wg5 cI cZ (dd 0) S0 ++ (wg7 cI cZ (dd 6) S6 ++ (wg1 (dd 8) (dd 9) (dd 10) tg.2.1 ++ (wg5 cI cZ (dd 9) tg.2.2.1 ++ (wg7 cI cZ (dd 10) tg.2.2.2.1 ++ (wg1 (dd 11) (dd 12) (dd 13) tg.2.2.2.2.1 ++ (wg5 cI cZ (dd 12) tg.2.2.2.2.2.1 ++ (wg7 cI cZ (dd 13) tg.2.2.2.2.2.2 ++ (wg8 dd ++ (wgi cO dd)))))))))) t.heap) (va_A (wg5 cI cZ (dd 0) S0 ++ (wg7 cI cZ (dd 6) S6 ++ (wg1 (dd 8) (dd 9) (dd 10) S8 ++ (wg5 cI cZ (dd 9) S9 ++ (wg7 cI cZ (dd 10) S10 ++ (wg1 (dd 11) (dd 12) (dd 13) S11 ++ (wg5 cI cZ (dd 12) S12 ++ (wg7 cI cZ (dd 13) S13 ++ (wg8 dd ++ (wgi cO dd)))))))))) sz)) 0 0 (va_A (wg5 cI cZ (dd 0) S0 ++ (wg7 cI cZ (dd 6) S6 ++ (wg1 (dd 8) (dd 9) (dd 10) S8 ++ (wg5 cI cZ (dd 9) S9 ++ (wg7 cI cZ (dd 10) S10 ++ (wg1 (dd 11) (dd 12) (dd 13) S11 ++ (wg5 cI cZ (dd 12) S12 ++ (wg7 cI cZ (dd 13) S13 ++ (wg8 dd ++ (wgi cO dd)))))))))) sz) := by
  refine Met.ofW (cc := cX8_image) (maxL := 2) (ret := (some .int)) (by decide) rfl ?_
  intro p e s m args below meth c s₁ B hml hv
  obtain ⟨rfl, hsz, hE, hP, hD0⟩ := hv
  have hx := B.exec
  have hb := B.bytes
  have hr := B.returns
  have hts := atoms_spec (ws := wsX8_image) B.pre
  have hown : s.vm.findClass RX8 = some m.cls := findClass_of_methodNamed B.named
  have hlocks := B.notSynchronized
  have hi8 : ∀ w ∈ u_ws RX8 TX8 7, w ∈ wsX8_image := by decide +kernel
  have hi1 : ∀ w ∈ u_ws RX1 TX1 3, w ∈ wsX8_image := by decide +kernel
  have hw0 := hts (.fieldLink RX8 53 "HailNames" "images" "[LHailNames$Image;") (by decide +kernel)
  have hw1 := hts (.fieldLink RX8 244 "HailNames$Image" "plain" "LHailNames$Plain;") (by decide +kernel)
  have hw2 := hts (.fieldLink RX8 10 "HailNames" "now" "LHailNames$Plain;") (by decide +kernel)
  have hw3 := hts (.fieldLink RX8 247 "HailNames$Image" "sights" "LHailNames$Sights;") (by decide +kernel)
  have hw4 := hts (.fieldLink RX8 40 "HailNames" "sights" "LHailNames$Sights;") (by decide +kernel)
  have hw5 := hts (.fieldLink RX8 250 "HailNames$Image" "kept" "Z") (by decide +kernel)
  subst hsz
  have hD1 := hD0.self (sz := s.heap.size)
  generalize hAe : va_A (wg5 cI cZ (dd 0) S0 ++ (wg7 cI cZ (dd 6) S6 ++ (wg1 (dd 8) (dd 9) (dd 10) S8 ++ (wg5 cI cZ (dd 9) S9 ++ (wg7 cI cZ (dd 10) S10 ++ (wg1 (dd 11) (dd 12) (dd 13) S11 ++ (wg5 cI cZ (dd 12) S12 ++ (wg7 cI cZ (dd 13) S13 ++ (wg8 dd ++ (wgi cO dd)))))))))) s.heap.size = A at hD1 ⊢
  have hA : ∀ q : Nat, s.heap.size ≤ q → A q := fun q h => by rw [← hAe]; exact Or.inr h
  have hS : va_S A s.heap s.heap [] := va_S.rf
  have hD : ∀ (S0 : St) (S6 : St) (S8 : St) (S9 : St) (S10 : St) (S11 : St) (S12 : St) (S13 : St), va_D A (wg5 cI cZ (dd 0) S0 ++ (wg7 cI cZ (dd 6) S6 ++ (wg1 (dd 8) (dd 9) (dd 10) S8 ++ (wg5 cI cZ (dd 9) S9 ++ (wg7 cI cZ (dd 10) S10 ++ (wg1 (dd 11) (dd 12) (dd 13) S11 ++ (wg5 cI cZ (dd 12) S12 ++ (wg7 cI cZ (dd 13) S13 ++ (wg8 dd ++ (wgi cO dd)))))))))) := fun S0 S6 S8 S9 S10 S11 S12 S13 => q_D hD1 rfl
  have hl := lv_entry ([.ref (dd 14 0), .int p0]) (n := 2) (Nat.le_of_ble_eq_true rfl)
  rw [lg_entry_eq]
  generalize (lg_sl ([.ref (dd 14 0), .int p0]) ++ List.replicate (2 - (lg_sl ([.ref (dd 14 0), .int p0])).length) Slot.unset).toArray = ls at hl ⊢
  have hl : lv_has ls 2 [(0, .ref (dd 14 0)), (1, .int p0)] := hl
  have ht := (xX8_image_s S0 S6 p0 S8 S9 S10 S11 S12 S13).symm.trans ht
  refine lv_iload_n hx hb dX8_image_0 rfl (lv_at hl 1 rfl) ?_
  refine lv_iconst (v := 0) hx hb dX8_image_1 (by decide) ?_
  refine lv_iconst (v := 1) hx hb dX8_image_2 (by decide) ?_
  refine q_ri (va_runS (As := [.int p0, .int 0, .int 1]) (rest := []) ⟨hx, hb, hml, hown, hts⟩ (kX8_within l D cI cZ cO p0 0 1) (va_cwS 3 hts gX8_image_X8_within rfl rfl rfl (by decide +kernel) ⟨Nat.le_of_ble_eq_true rfl, Nat.le_of_ble_eq_true rfl⟩) (q_rS hE q_nil) rfl rfl hl.1 rfl (lv_room (Nat.le_of_ble_eq_true rfl)) dX8_image_3 ⟨Nat.le_of_ble_eq_true rfl, Nat.le_of_ble_eq_true rfl⟩) (fun b1 => ?_)
  refine lv_if_ne (tgt := 12) hx hb dX8_image_6 (by decide) (fun c2 => ?_) (fun c2 => ?_)
  · have ht := it_n c2 ht
    refine lv_aload_n hx hb dX8_image_12 rfl (lv_at hl 0 rfl) ?_
    refine va_get (D := D) (ci := 8) (v := .ref (dd 14 1)) (C := RX8) (T := TX8) (N := 7) hx hb hts hi8 hown hE.1 hP 44 rfl rfl 6 (by decide) hw0 (fun _ h9 => h9) rfl dX8_image_13 ?_
    refine lv_iload_n hx hb dX8_image_16 rfl (lv_at hl 1 rfl) ?_
    by_cases c3 : p0 = 0
    · have ht := it_p c3 ht
      refine va_aldq hx hb hE.1 hP 45 2 rfl rfl (by rw [c3]; exact q_in (by decide +kernel)) dX8_image_17 ?_
      rw [show va_rf ((va_up (va_up (fun _ => none) (0 : Int32).toNatClampNeg (some (dd 8 0))) (1 : Int32).toNatClampNeg (some (dd 11 0))) p0.toNatClampNeg) = .ref (dd 8 0) by rw [c3]; rfl]
      refine va_get (D := D) (ci := 1) (v := .ref (dd 9 0)) (C := RX1) (T := TX1) (N := 3) hx hb hts hi1 hown hE.1 hP 14 rfl rfl 0 (by decide) hw1 (fun _ h9 => h9) rfl dX8_image_18 ?_
      refine lv_aload_n hx hb dX8_image_21 rfl (lv_at hl 0 rfl) ?_
      refine va_get (D := D) (ci := 8) (v := .ref (dd 0 0)) (C := RX8) (T := TX8) (N := 7) hx hb hts hi8 hown hE.1 hP 44 rfl rfl 0 (by decide) hw2 (fun _ h9 => h9) rfl dX8_image_22 ?_
      obtain ⟨q5, hq5, ht⟩ := it_b ht
      have hPc : va_P D vwCl (wg5 cI cZ (dd 9) S9 ++ (wg5 cI cZ (dd 0) S0)) s.heap := hP.sub [15, 16, 17, 18, 19, 20, 21, 22, 23, 24, 0, 1, 2, 3, 4, 5, 6, 7, 8, 9] rfl
      have hDc : va_D A (wg5 cI cZ (dd 9) S9 ++ (wg5 cI cZ (dd 0) S0)) := ((hD S0 S6 S8 S9 S10 S11 S12 S13)).sub [15, 16, 17, 18, 19, 20, 21, 22, 23, 24, 0, 1, 2, 3, 4, 5, 6, 7, 8, 9] (by decide) rfl
      have hFc := va_free (wc := (wg5 cI cZ (dd 9) S9 ++ (wg5 cI cZ (dd 0) S0))) (hD S0 S6 S8 S9 S10 S11 S12 S13) hS hA [15, 16, 17, 18, 19, 20, 21, 22, 23, 24, 0, 1, 2, 3, 4, 5, 6, 7, 8, 9] rfl
      refine q_mv (va_runV (As := [.ref (dd 0 0)]) (rest := []) ⟨hx, hb, hml, hown, hts⟩ (kX5_copyFrom l D cI cZ cO (dd 9) (dd 0) s.heap.size S9 S0 q5 hq5) (cwV 1 hts gX8_image_X5_copyFrom rfl rfl rfl (by decide +kernel) ⟨Nat.le_of_ble_eq_true rfl, Nat.le_of_ble_eq_true rfl⟩) (q_mV (As := [.ref (dd 0 0)]) hE hPc hDc (q0 := 0) (ci := 5) rfl rfl) rfl rfl hl.1 rfl (lv_room (Nat.le_of_ble_eq_true rfl)) dX8_image_25 ⟨Nat.le_of_ble_eq_true rfl, Nat.le_of_ble_eq_true rfl⟩) hS hFc (fun H locs hP1 hk hS => ?_)
      have hP : va_P D vwCl (wg5 cI cZ (dd 0) S0 ++ (wg7 cI cZ (dd 6) S6 ++ (wg1 (dd 8) (dd 9) (dd 10) S8 ++ (wg5 cI cZ (dd 9) q5 ++ (wg7 cI cZ (dd 10) S10 ++ (wg1 (dd 11) (dd 12) (dd 13) S11 ++ (wg5 cI cZ (dd 12) S12 ++ (wg7 cI cZ (dd 13) S13 ++ (wg8 dd ++ (wgi cO dd)))))))))) H := (q_join (wr := (wg7 cI cZ (dd 6) S6 ++ (wg1 (dd 8) (dd 9) (dd 10) S8 ++ (wg7 cI cZ (dd 10) S10 ++ (wg1 (dd 11) (dd 12) (dd 13) S11 ++ (wg5 cI cZ (dd 12) S12 ++ (wg7 cI cZ (dd 13) S13 ++ (wg8 dd ++ (wgi cO dd))))))))) hP (hD S0 S6 S8 S9 S10 S11 S12 S13) [15, 16, 17, 18, 19, 20, 21, 22, 23, 24, 0, 1, 2, 3, 4, 5, 6, 7, 8, 9] [10, 11, 12, 13, 14, 25, 26, 27, 28, 29, 30, 31, 32, 33, 34, 35, 36, 37, 38, 39, 40, 41, 42, 43, 44, 45] rfl rfl (by decide) (by decide) hk hFc hP1 hDc rfl).sub [36, 37, 38, 39, 40, 41, 42, 43, 44, 45, 0, 1, 2, 3, 4, 26, 27, 28, 29, 30, 31, 32, 33, 34, 35, 5, 6, 7, 8, 9, 10, 11, 12, 13, 14, 15, 16, 17, 18, 19, 20, 21, 22, 23, 24, 25] rfl
      refine lv_aload_n hx hb dX8_image_28 rfl (lv_at hl 0 rfl) ?_
      refine va_get (D := D) (ci := 8) (v := .ref (dd 14 1)) (C := RX8) (T := TX8) (N := 7) hx hb hts hi8 hown hE.1 hP 44 rfl rfl 6 (by decide) hw0 (fun _ h9 => h9) rfl dX8_image_29 ?_
      refine lv_iload_n hx hb dX8_image_32 rfl (lv_at hl 1 rfl) ?_
      refine va_aldq hx hb hE.1 hP 45 2 rfl rfl (by rw [c3]; exact q_in (by decide +kernel)) dX8_image_33 ?_
      rw [show va_rf ((va_up (va_up (fun _ => none) (0 : Int32).toNatClampNeg (some (dd 8 0))) (1 : Int32).toNatClampNeg (some (dd 11 0))) p0.toNatClampNeg) = .ref (dd 8 0) by rw [c3]; rfl]
      refine va_get (D := D) (ci := 1) (v := .ref (dd 10 0)) (C := RX1) (T := TX1) (N := 3) hx hb hts hi1 hown hE.1 hP 14 rfl rfl 1 (by decide) hw3 (fun _ h9 => h9) rfl dX8_image_34 ?_
      refine lv_aload_n hx hb dX8_image_37 rfl (lv_at hl 0 rfl) ?_
      refine va_get (D := D) (ci := 8) (v := .ref (dd 6 0)) (C := RX8) (T := TX8) (N := 7) hx hb hts hi8 hown hE.1 hP 44 rfl rfl 4 (by decide) hw4 (fun _ h9 => h9) rfl dX8_image_38 ?_
      obtain ⟨q6, hq6, ht⟩ := it_b ht
      have hPc : va_P D vwCl (wg7 cI cZ (dd 10) S10 ++ (wg7 cI cZ (dd 6) S6)) H := hP.sub [25, 26, 27, 28, 10, 11, 12, 13] rfl
      have hDc : va_D A (wg7 cI cZ (dd 10) S10 ++ (wg7 cI cZ (dd 6) S6)) := ((hD S0 S6 S8 q5 S10 S11 S12 S13)).sub [25, 26, 27, 28, 10, 11, 12, 13] (by decide) rfl
      have hFc := va_free (wc := (wg7 cI cZ (dd 10) S10 ++ (wg7 cI cZ (dd 6) S6))) (hD S0 S6 S8 q5 S10 S11 S12 S13) hS hA [25, 26, 27, 28, 10, 11, 12, 13] rfl
      refine q_mv (va_runV (As := [.ref (dd 6 0)]) (rest := []) ⟨hx, hb, hml, hown, hts⟩ (kX7_copyFrom l D cI cZ cO (dd 10) (dd 6) H.size S10 S6 q6 hq6) (cwV 1 hts gX8_image_X7_copyFrom rfl rfl rfl (by decide +kernel) ⟨Nat.le_of_ble_eq_true rfl, Nat.le_of_ble_eq_true rfl⟩) (q_mV (As := [.ref (dd 6 0)]) hE hPc hDc (q0 := 0) (ci := 7) rfl rfl) rfl rfl hl.1 rfl (lv_room (Nat.le_of_ble_eq_true rfl)) dX8_image_41 ⟨Nat.le_of_ble_eq_true rfl, Nat.le_of_ble_eq_true rfl⟩) hS hFc (fun H locs hP1 hk hS => ?_)
      have hP : va_P D vwCl (wg5 cI cZ (dd 0) S0 ++ (wg7 cI cZ (dd 6) S6 ++ (wg1 (dd 8) (dd 9) (dd 10) S8 ++ (wg5 cI cZ (dd 9) q5 ++ (wg7 cI cZ (dd 10) q6 ++ (wg1 (dd 11) (dd 12) (dd 13) S11 ++ (wg5 cI cZ (dd 12) S12 ++ (wg7 cI cZ (dd 13) S13 ++ (wg8 dd ++ (wgi cO dd)))))))))) H := (q_join (wr := (wg5 cI cZ (dd 0) S0 ++ (wg1 (dd 8) (dd 9) (dd 10) S8 ++ (wg5 cI cZ (dd 9) q5 ++ (wg1 (dd 11) (dd 12) (dd 13) S11 ++ (wg5 cI cZ (dd 12) S12 ++ (wg7 cI cZ (dd 13) S13 ++ (wg8 dd ++ (wgi cO dd))))))))) hP (hD S0 S6 S8 q5 S10 S11 S12 S13) [25, 26, 27, 28, 10, 11, 12, 13] [0, 1, 2, 3, 4, 5, 6, 7, 8, 9, 14, 15, 16, 17, 18, 19, 20, 21, 22, 23, 24, 29, 30, 31, 32, 33, 34, 35, 36, 37, 38, 39, 40, 41, 42, 43, 44, 45] rfl rfl (by decide) (by decide) hk hFc hP1 hDc rfl).sub [0, 1, 2, 3, 4, 5, 6, 7, 8, 9, 42, 43, 44, 45, 10, 11, 12, 13, 14, 15, 16, 17, 18, 19, 20, 38, 39, 40, 41, 21, 22, 23, 24, 25, 26, 27, 28, 29, 30, 31, 32, 33, 34, 35, 36, 37] rfl
      refine lv_aload_n hx hb dX8_image_44 rfl (lv_at hl 0 rfl) ?_
      refine va_get (D := D) (ci := 8) (v := .ref (dd 14 1)) (C := RX8) (T := TX8) (N := 7) hx hb hts hi8 hown hE.1 hP 44 rfl rfl 6 (by decide) hw0 (fun _ h9 => h9) rfl dX8_image_45 ?_
      refine lv_iload_n hx hb dX8_image_48 rfl (lv_at hl 1 rfl) ?_
      refine va_aldq hx hb hE.1 hP 45 2 rfl rfl (by rw [c3]; exact q_in (by decide +kernel)) dX8_image_49 ?_
      rw [show va_rf ((va_up (va_up (fun _ => none) (0 : Int32).toNatClampNeg (some (dd 8 0))) (1 : Int32).toNatClampNeg (some (dd 11 0))) p0.toNatClampNeg) = .ref (dd 8 0) by rw [c3]; rfl]
      refine lv_iconst (v := 1) hx hb dX8_image_50 (by decide) ?_
      refine va_put (D := D) (ci := 1) (v := .int 1) (ty := .boolean) (C := RX1) (T := TX1) (N := 3) hx hb hts hi1 tyX1 tyX1_ok nmX1 hown hE.1 hP (hD _ _ _ _ _ _ _ _) hS 14 rfl rfl 2 (by decide) hw5 (fun _ h9 => h9) rfl (by decide +kernel) (by decide +kernel) (by decide +kernel) (Nat.le_of_ble_eq_true rfl) dX8_image_51 (fun H locs hP _ hS => ?_)
      have hP : va_P D vwCl (wg5 cI cZ (dd 0) S0 ++ (wg7 cI cZ (dd 6) S6 ++ (wg1 (dd 8) (dd 9) (dd 10) (q_su S8 2 0 1) ++ (wg5 cI cZ (dd 9) q5 ++ (wg7 cI cZ (dd 10) q6 ++ (wg1 (dd 11) (dd 12) (dd 13) S11 ++ (wg5 cI cZ (dd 12) S12 ++ (wg7 cI cZ (dd 13) S13 ++ (wg8 dd ++ (wgi cO dd)))))))))) H := hP
      obtain ⟨T7, eT7⟩ : ∃ z : St, z = q_su S8 2 0 1 := ⟨_, rfl⟩
      rw [← eT7] at hP
      have ht := it_l ht eT7
      refine lv_iconst (v := 1) hx hb dX8_image_54 (by decide) ?_
      obtain rfl := Option.some.inj ht
      exact W.iret (v := 1) hx hb hr (fun t e1 hW => ⟨⟨_, (), rfl, ⟨rfl, trivial⟩, q_at e1 hP⟩, hS.F e1⟩) hS.2.2 dX8_image_55
    have ht := it_n c3 ht
    by_cases c4 : p0 = 1
    · have ht := it_p c4 ht
      refine va_aldq hx hb hE.1 hP 45 2 rfl rfl (by rw [c4]; exact q_in (by decide +kernel)) dX8_image_17 ?_
      rw [show va_rf ((va_up (va_up (fun _ => none) (0 : Int32).toNatClampNeg (some (dd 8 0))) (1 : Int32).toNatClampNeg (some (dd 11 0))) p0.toNatClampNeg) = .ref (dd 11 0) by rw [c4]; rfl]
      refine va_get (D := D) (ci := 1) (v := .ref (dd 12 0)) (C := RX1) (T := TX1) (N := 3) hx hb hts hi1 hown hE.1 hP 29 rfl rfl 0 (by decide) hw1 (fun _ h9 => h9) rfl dX8_image_18 ?_
      refine lv_aload_n hx hb dX8_image_21 rfl (lv_at hl 0 rfl) ?_
      refine va_get (D := D) (ci := 8) (v := .ref (dd 0 0)) (C := RX8) (T := TX8) (N := 7) hx hb hts hi8 hown hE.1 hP 44 rfl rfl 0 (by decide) hw2 (fun _ h9 => h9) rfl dX8_image_22 ?_
      obtain ⟨q8, hq8, ht⟩ := it_b ht
      have hPc : va_P D vwCl (wg5 cI cZ (dd 12) S12 ++ (wg5 cI cZ (dd 0) S0)) s.heap := hP.sub [30, 31, 32, 33, 34, 35, 36, 37, 38, 39, 0, 1, 2, 3, 4, 5, 6, 7, 8, 9] rfl
      have hDc : va_D A (wg5 cI cZ (dd 12) S12 ++ (wg5 cI cZ (dd 0) S0)) := ((hD S0 S6 S8 S9 S10 S11 S12 S13)).sub [30, 31, 32, 33, 34, 35, 36, 37, 38, 39, 0, 1, 2, 3, 4, 5, 6, 7, 8, 9] (by decide) rfl
      have hFc := va_free (wc := (wg5 cI cZ (dd 12) S12 ++ (wg5 cI cZ (dd 0) S0))) (hD S0 S6 S8 S9 S10 S11 S12 S13) hS hA [30, 31, 32, 33, 34, 35, 36, 37, 38, 39, 0, 1, 2, 3, 4, 5, 6, 7, 8, 9] rfl
      refine q_mv (va_runV (As := [.ref (dd 0 0)]) (rest := []) ⟨hx, hb, hml, hown, hts⟩ (kX5_copyFrom l D cI cZ cO (dd 12) (dd 0) s.heap.size S12 S0 q8 hq8) (cwV 1 hts gX8_image_X5_copyFrom rfl rfl rfl (by decide +kernel) ⟨Nat.le_of_ble_eq_true rfl, Nat.le_of_ble_eq_true rfl⟩) (q_mV (As := [.ref (dd 0 0)]) hE hPc hDc (q0 := 0) (ci := 5) rfl rfl) rfl rfl hl.1 rfl (lv_room (Nat.le_of_ble_eq_true rfl)) dX8_image_25 ⟨Nat.le_of_ble_eq_true rfl, Nat.le_of_ble_eq_true rfl⟩) hS hFc (fun H locs hP1 hk hS => ?_)
      have hP : va_P D vwCl (wg5 cI cZ (dd 0) S0 ++ (wg7 cI cZ (dd 6) S6 ++ (wg1 (dd 8) (dd 9) (dd 10) S8 ++ (wg5 cI cZ (dd 9) S9 ++ (wg7 cI cZ (dd 10) S10 ++ (wg1 (dd 11) (dd 12) (dd 13) S11 ++ (wg5 cI cZ (dd 12) q8 ++ (wg7 cI cZ (dd 13) S13 ++ (wg8 dd ++ (wgi cO dd)))))))))) H := (q_join (wr := (wg7 cI cZ (dd 6) S6 ++ (wg1 (dd 8) (dd 9) (dd 10) S8 ++ (wg5 cI cZ (dd 9) S9 ++ (wg7 cI cZ (dd 10) S10 ++ (wg1 (dd 11) (dd 12) (dd 13) S11 ++ (wg7 cI cZ (dd 13) S13 ++ (wg8 dd ++ (wgi cO dd))))))))) hP (hD S0 S6 S8 S9 S10 S11 S12 S13) [30, 31, 32, 33, 34, 35, 36, 37, 38, 39, 0, 1, 2, 3, 4, 5, 6, 7, 8, 9] [10, 11, 12, 13, 14, 15, 16, 17, 18, 19, 20, 21, 22, 23, 24, 25, 26, 27, 28, 29, 40, 41, 42, 43, 44, 45] rfl rfl (by decide) (by decide) hk hFc hP1 hDc rfl).sub [36, 37, 38, 39, 40, 41, 42, 43, 44, 45, 0, 1, 2, 3, 4, 5, 6, 7, 8, 9, 10, 11, 12, 13, 14, 15, 16, 17, 18, 19, 26, 27, 28, 29, 30, 31, 32, 33, 34, 35, 20, 21, 22, 23, 24, 25] rfl
      refine lv_aload_n hx hb dX8_image_28 rfl (lv_at hl 0 rfl) ?_
      refine va_get (D := D) (ci := 8) (v := .ref (dd 14 1)) (C := RX8) (T := TX8) (N := 7) hx hb hts hi8 hown hE.1 hP 44 rfl rfl 6 (by decide) hw0 (fun _ h9 => h9) rfl dX8_image_29 ?_
      refine lv_iload_n hx hb dX8_image_32 rfl (lv_at hl 1 rfl) ?_
      refine va_aldq hx hb hE.1 hP 45 2 rfl rfl (by rw [c4]; exact q_in (by decide +kernel)) dX8_image_33 ?_
      rw [show va_rf ((va_up (va_up (fun _ => none) (0 : Int32).toNatClampNeg (some (dd 8 0))) (1 : Int32).toNatClampNeg (some (dd 11 0))) p0.toNatClampNeg) = .ref (dd 11 0) by rw [c4]; rfl]
      refine va_get (D := D) (ci := 1) (v := .ref (dd 13 0)) (C := RX1) (T := TX1) (N := 3) hx hb hts hi1 hown hE.1 hP 29 rfl rfl 1 (by decide) hw3 (fun _ h9 => h9) rfl dX8_image_34 ?_
      refine lv_aload_n hx hb dX8_image_37 rfl (lv_at hl 0 rfl) ?_
      refine va_get (D := D) (ci := 8) (v := .ref (dd 6 0)) (C := RX8) (T := TX8) (N := 7) hx hb hts hi8 hown hE.1 hP 44 rfl rfl 4 (by decide) hw4 (fun _ h9 => h9) rfl dX8_image_38 ?_
      obtain ⟨q9, hq9, ht⟩ := it_b ht
      have hPc : va_P D vwCl (wg7 cI cZ (dd 13) S13 ++ (wg7 cI cZ (dd 6) S6)) H := hP.sub [40, 41, 42, 43, 10, 11, 12, 13] rfl
      have hDc : va_D A (wg7 cI cZ (dd 13) S13 ++ (wg7 cI cZ (dd 6) S6)) := ((hD S0 S6 S8 S9 S10 S11 q8 S13)).sub [40, 41, 42, 43, 10, 11, 12, 13] (by decide) rfl
      have hFc := va_free (wc := (wg7 cI cZ (dd 13) S13 ++ (wg7 cI cZ (dd 6) S6))) (hD S0 S6 S8 S9 S10 S11 q8 S13) hS hA [40, 41, 42, 43, 10, 11, 12, 13] rfl
      refine q_mv (va_runV (As := [.ref (dd 6 0)]) (rest := []) ⟨hx, hb, hml, hown, hts⟩ (kX7_copyFrom l D cI cZ cO (dd 13) (dd 6) H.size S13 S6 q9 hq9) (cwV 1 hts gX8_image_X7_copyFrom rfl rfl rfl (by decide +kernel) ⟨Nat.le_of_ble_eq_true rfl, Nat.le_of_ble_eq_true rfl⟩) (q_mV (As := [.ref (dd 6 0)]) hE hPc hDc (q0 := 0) (ci := 7) rfl rfl) rfl rfl hl.1 rfl (lv_room (Nat.le_of_ble_eq_true rfl)) dX8_image_41 ⟨Nat.le_of_ble_eq_true rfl, Nat.le_of_ble_eq_true rfl⟩) hS hFc (fun H locs hP1 hk hS => ?_)
      have hP : va_P D vwCl (wg5 cI cZ (dd 0) S0 ++ (wg7 cI cZ (dd 6) S6 ++ (wg1 (dd 8) (dd 9) (dd 10) S8 ++ (wg5 cI cZ (dd 9) S9 ++ (wg7 cI cZ (dd 10) S10 ++ (wg1 (dd 11) (dd 12) (dd 13) S11 ++ (wg5 cI cZ (dd 12) q8 ++ (wg7 cI cZ (dd 13) q9 ++ (wg8 dd ++ (wgi cO dd)))))))))) H := (q_join (wr := (wg5 cI cZ (dd 0) S0 ++ (wg1 (dd 8) (dd 9) (dd 10) S8 ++ (wg5 cI cZ (dd 9) S9 ++ (wg7 cI cZ (dd 10) S10 ++ (wg1 (dd 11) (dd 12) (dd 13) S11 ++ (wg5 cI cZ (dd 12) q8 ++ (wg8 dd ++ (wgi cO dd))))))))) hP (hD S0 S6 S8 S9 S10 S11 q8 S13) [40, 41, 42, 43, 10, 11, 12, 13] [0, 1, 2, 3, 4, 5, 6, 7, 8, 9, 14, 15, 16, 17, 18, 19, 20, 21, 22, 23, 24, 25, 26, 27, 28, 29, 30, 31, 32, 33, 34, 35, 36, 37, 38, 39, 44, 45] rfl rfl (by decide) (by decide) hk hFc hP1 hDc rfl).sub [0, 1, 2, 3, 4, 5, 6, 7, 8, 9, 42, 43, 44, 45, 10, 11, 12, 13, 14, 15, 16, 17, 18, 19, 20, 21, 22, 23, 24, 25, 26, 27, 28, 29, 30, 31, 32, 33, 34, 35, 38, 39, 40, 41, 36, 37] rfl
      refine lv_aload_n hx hb dX8_image_44 rfl (lv_at hl 0 rfl) ?_
      refine va_get (D := D) (ci := 8) (v := .ref (dd 14 1)) (C := RX8) (T := TX8) (N := 7) hx hb hts hi8 hown hE.1 hP 44 rfl rfl 6 (by decide) hw0 (fun _ h9 => h9) rfl dX8_image_45 ?_
      refine lv_iload_n hx hb dX8_image_48 rfl (lv_at hl 1 rfl) ?_
      refine va_aldq hx hb hE.1 hP 45 2 rfl rfl (by rw [c4]; exact q_in (by decide +kernel)) dX8_image_49 ?_
      rw [show va_rf ((va_up (va_up (fun _ => none) (0 : Int32).toNatClampNeg (some (dd 8 0))) (1 : Int32).toNatClampNeg (some (dd 11 0))) p0.toNatClampNeg) = .ref (dd 11 0) by rw [c4]; rfl]
      refine lv_iconst (v := 1) hx hb dX8_image_50 (by decide) ?_
      refine va_put (D := D) (ci := 1) (v := .int 1) (ty := .boolean) (C := RX1) (T := TX1) (N := 3) hx hb hts hi1 tyX1 tyX1_ok nmX1 hown hE.1 hP (hD _ _ _ _ _ _ _ _) hS 29 rfl rfl 2 (by decide) hw5 (fun _ h9 => h9) rfl (by decide +kernel) (by decide +kernel) (by decide +kernel) (Nat.le_of_ble_eq_true rfl) dX8_image_51 (fun H locs hP _ hS => ?_)
      have hP : va_P D vwCl (wg5 cI cZ (dd 0) S0 ++ (wg7 cI cZ (dd 6) S6 ++ (wg1 (dd 8) (dd 9) (dd 10) S8 ++ (wg5 cI cZ (dd 9) S9 ++ (wg7 cI cZ (dd 10) S10 ++ (wg1 (dd 11) (dd 12) (dd 13) (q_su S11 2 0 1) ++ (wg5 cI cZ (dd 12) q8 ++ (wg7 cI cZ (dd 13) q9 ++ (wg8 dd ++ (wgi cO dd)))))))))) H := hP
      obtain ⟨T10, eT10⟩ : ∃ z : St, z = q_su S11 2 0 1 := ⟨_, rfl⟩
      rw [← eT10] at hP
      have ht := it_l ht eT10
      refine lv_iconst (v := 1) hx hb dX8_image_54 (by decide) ?_
      obtain rfl := Option.some.inj ht
      exact W.iret (v := 1) hx hb hr (fun t e1 hW => ⟨⟨_, (), rfl, ⟨rfl, trivial⟩, q_at e1 hP⟩, hS.F e1⟩) hS.2.2 dX8_image_55
    have ht := it_n c4 ht
    exact it_z ht
  · have ht := it_p c2 ht
    refine lv_bipush (v := (-2)) hx hb dX8_image_9 (by decide) ?_
    obtain rfl := Option.some.inj ht
    exact W.iret (v := (-2)) hx hb hr (fun t e1 hW => ⟨⟨_, (), rfl, ⟨rfl, trivial⟩, q_at e1 hP⟩, hS.F e1⟩) hS.2.2 dX8_image_11
abbrev rmX8_restore : Room := { frames := 2, cells := 0, slots := 0, locals := 82 }
set_option maxHeartbeats 4000000 in
set_option maxRecDepth 100000 in
theorem kX8_restore (l : Launch) (D : va_G) (cI cZ cO : ClassId) (dd : Nat → Nat → Nat) (sz : Nat) (S0 : St) (S6 : St) (S8 : St) (S9 : St) (S10 : St) (S11 : St) (S12 : St) (S13 : St) (p0 : Int32) (tg : Int32 × St × St) (ht : xX8_restore S8 S9 S10 S11 S12 S13 p0 S0 S6 = some tg) : Met l yX8_restore wsX8_restore rmX8_restore (q_PM D cI cZ cO [.ref (dd 14 0), .int p0] sz (wg5 cI cZ (dd 0) S0 ++ (wg7 cI cZ (dd 6) S6 ++ (wg1 (dd 8) (dd 9) (dd 10) S8 ++ (wg5 cI cZ (dd 9) S9 ++ (wg7 cI cZ (dd 10) S10 ++ (wg1 (dd 11) (dd 12) (dd 13) S11 ++ (wg5 cI cZ (dd 12) S12 ++ (wg7 cI cZ (dd 13) S13 ++ (wg8 dd ++ (wgi cO dd))))))))))) (va_Qi (fun x (_ : Unit) => x = tg.1 ∧ True) (fun _ t => va_P D vwCl (wg5 cI cZ (dd 0) tg.2.1 ++ (wg7 cI cZ (dd 6) tg.2.2 ++ (wg1 (dd 8) (dd 9) (dd 10) S8 ++ (wg5 cI cZ (dd 9) S9 ++ (wg7 cI cZ (dd 10) S10 ++ (wg1 (dd 11) (dd 12) (dd 13) S11 ++ (wg5 cI cZ (dd 12) S12 ++ (wg7 cI cZ (dd 13) S13 ++ (wg8 dd ++ (wgi cO dd)))))))))) t.heap) (va_A (wg5 cI cZ (dd 0) S0 ++ (wg7 cI cZ (dd 6) S6 ++ (wg1 (dd 8) (dd 9) (dd 10) S8 ++ (wg5 cI cZ (dd 9) S9 ++ (wg7 cI cZ (dd 10) S10 ++ (wg1 (dd 11) (dd 12) (dd 13) S11 ++ (wg5 cI cZ (dd 12) S12 ++ (wg7 cI cZ (dd 13) S13 ++ (wg8 dd ++ (wgi cO dd)))))))))) sz)) 0 0 (va_A (wg5 cI cZ (dd 0) S0 ++ (wg7 cI cZ (dd 6) S6 ++ (wg1 (dd 8) (dd 9) (dd 10) S8 ++ (wg5 cI cZ (dd 9) S9 ++ (wg7 cI cZ (dd 10) S10 ++ (wg1 (dd 11) (dd 12) (dd 13) S11 ++ (wg5 cI cZ (dd 12) S12 ++ (wg7 cI cZ (dd 13) S13 ++ (wg8 dd ++ (wgi cO dd)))))))))) sz) := by
  refine Met.ofW (cc := cX8_restore) (maxL := 2) (ret := (some .int)) (by decide) rfl ?_
  intro p e s m args below meth c s₁ B hml hv
  obtain ⟨rfl, hsz, hE, hP, hD0⟩ := hv
  have hx := B.exec
  have hb := B.bytes
  have hr := B.returns
  have hts := atoms_spec (ws := wsX8_restore) B.pre
  have hown : s.vm.findClass RX8 = some m.cls := findClass_of_methodNamed B.named
  have hlocks := B.notSynchronized
  have hi8 : ∀ w ∈ u_ws RX8 TX8 7, w ∈ wsX8_restore := by decide +kernel
  have hi1 : ∀ w ∈ u_ws RX1 TX1 3, w ∈ wsX8_restore := by decide +kernel
  have hw0 := hts (.fieldLink RX8 53 "HailNames" "images" "[LHailNames$Image;") (by decide +kernel)
  have hw1 := hts (.fieldLink RX8 250 "HailNames$Image" "kept" "Z") (by decide +kernel)
  have hw2 := hts (.fieldLink RX8 10 "HailNames" "now" "LHailNames$Plain;") (by decide +kernel)
  have hw3 := hts (.fieldLink RX8 244 "HailNames$Image" "plain" "LHailNames$Plain;") (by decide +kernel)
  have hw4 := hts (.fieldLink RX8 40 "HailNames" "sights" "LHailNames$Sights;") (by decide +kernel)
  have hw5 := hts (.fieldLink RX8 247 "HailNames$Image" "sights" "LHailNames$Sights;") (by decide +kernel)
  subst hsz
  have hD1 := hD0.self (sz := s.heap.size)
  generalize hAe : va_A (wg5 cI cZ (dd 0) S0 ++ (wg7 cI cZ (dd 6) S6 ++ (wg1 (dd 8) (dd 9) (dd 10) S8 ++ (wg5 cI cZ (dd 9) S9 ++ (wg7 cI cZ (dd 10) S10 ++ (wg1 (dd 11) (dd 12) (dd 13) S11 ++ (wg5 cI cZ (dd 12) S12 ++ (wg7 cI cZ (dd 13) S13 ++ (wg8 dd ++ (wgi cO dd)))))))))) s.heap.size = A at hD1 ⊢
  have hA : ∀ q : Nat, s.heap.size ≤ q → A q := fun q h => by rw [← hAe]; exact Or.inr h
  have hS : va_S A s.heap s.heap [] := va_S.rf
  have hD : ∀ (S0 : St) (S6 : St) (S8 : St) (S9 : St) (S10 : St) (S11 : St) (S12 : St) (S13 : St), va_D A (wg5 cI cZ (dd 0) S0 ++ (wg7 cI cZ (dd 6) S6 ++ (wg1 (dd 8) (dd 9) (dd 10) S8 ++ (wg5 cI cZ (dd 9) S9 ++ (wg7 cI cZ (dd 10) S10 ++ (wg1 (dd 11) (dd 12) (dd 13) S11 ++ (wg5 cI cZ (dd 12) S12 ++ (wg7 cI cZ (dd 13) S13 ++ (wg8 dd ++ (wgi cO dd)))))))))) := fun S0 S6 S8 S9 S10 S11 S12 S13 => q_D hD1 rfl
  have hl := lv_entry ([.ref (dd 14 0), .int p0]) (n := 2) (Nat.le_of_ble_eq_true rfl)
  rw [lg_entry_eq]
  generalize (lg_sl ([.ref (dd 14 0), .int p0]) ++ List.replicate (2 - (lg_sl ([.ref (dd 14 0), .int p0])).length) Slot.unset).toArray = ls at hl ⊢
  have hl : lv_has ls 2 [(0, .ref (dd 14 0)), (1, .int p0)] := hl
  have ht := (xX8_restore_s S8 S9 S10 S11 S12 S13 p0 S0 S6).symm.trans ht
  refine lv_iload_n hx hb dX8_restore_0 rfl (lv_at hl 1 rfl) ?_
  refine lv_iconst (v := 0) hx hb dX8_restore_1 (by decide) ?_
  refine lv_iconst (v := 1) hx hb dX8_restore_2 (by decide) ?_
  refine q_ri (va_runS (As := [.int p0, .int 0, .int 1]) (rest := []) ⟨hx, hb, hml, hown, hts⟩ (kX8_within l D cI cZ cO p0 0 1) (va_cwS 3 hts gX8_restore_X8_within rfl rfl rfl (by decide +kernel) ⟨Nat.le_of_ble_eq_true rfl, Nat.le_of_ble_eq_true rfl⟩) (q_rS hE q_nil) rfl rfl hl.1 rfl (lv_room (Nat.le_of_ble_eq_true rfl)) dX8_restore_3 ⟨Nat.le_of_ble_eq_true rfl, Nat.le_of_ble_eq_true rfl⟩) (fun b1 => ?_)
  refine lv_if_ne (tgt := 12) hx hb dX8_restore_6 (by decide) (fun c2 => ?_) (fun c2 => ?_)
  · have ht := it_n c2 ht
    refine lv_aload_n hx hb dX8_restore_12 rfl (lv_at hl 0 rfl) ?_
    refine va_get (D := D) (ci := 8) (v := .ref (dd 14 1)) (C := RX8) (T := TX8) (N := 7) hx hb hts hi8 hown hE.1 hP 44 rfl rfl 6 (by decide) hw0 (fun _ h9 => h9) rfl dX8_restore_13 ?_
    refine lv_iload_n hx hb dX8_restore_16 rfl (lv_at hl 1 rfl) ?_
    by_cases c3 : p0 = 0
    · have ht := it_p c3 ht
      refine va_aldq hx hb hE.1 hP 45 2 rfl rfl (by rw [c3]; exact q_in (by decide +kernel)) dX8_restore_17 ?_
      rw [show va_rf ((va_up (va_up (fun _ => none) (0 : Int32).toNatClampNeg (some (dd 8 0))) (1 : Int32).toNatClampNeg (some (dd 11 0))) p0.toNatClampNeg) = .ref (dd 8 0) by rw [c3]; rfl]
      refine va_get (D := D) (ci := 1) (v := .int (S8 2 0)) (C := RX1) (T := TX1) (N := 3) hx hb hts hi1 hown hE.1 hP 14 rfl rfl 2 (by decide) hw1 (fun _ h9 => h9) rfl dX8_restore_18 ?_
      refine lv_if_ne (tgt := 27) hx hb dX8_restore_21 (by decide) (fun c5 => ?_) (fun c5 => ?_)
      · have ht := it_n c5 ht
        refine lv_aload_n hx hb dX8_restore_27 rfl (lv_at hl 0 rfl) ?_
        refine va_get (D := D) (ci := 8) (v := .ref (dd 0 0)) (C := RX8) (T := TX8) (N := 7) hx hb hts hi8 hown hE.1 hP 44 rfl rfl 0 (by decide) hw2 (fun _ h9 => h9) rfl dX8_restore_28 ?_
        refine lv_aload_n hx hb dX8_restore_31 rfl (lv_at hl 0 rfl) ?_
        refine va_get (D := D) (ci := 8) (v := .ref (dd 14 1)) (C := RX8) (T := TX8) (N := 7) hx hb hts hi8 hown hE.1 hP 44 rfl rfl 6 (by decide) hw0 (fun _ h9 => h9) rfl dX8_restore_32 ?_
        refine lv_iload_n hx hb dX8_restore_35 rfl (lv_at hl 1 rfl) ?_
        refine va_aldq hx hb hE.1 hP 45 2 rfl rfl (by rw [c3]; exact q_in (by decide +kernel)) dX8_restore_36 ?_
        rw [show va_rf ((va_up (va_up (fun _ => none) (0 : Int32).toNatClampNeg (some (dd 8 0))) (1 : Int32).toNatClampNeg (some (dd 11 0))) p0.toNatClampNeg) = .ref (dd 8 0) by rw [c3]; rfl]
        refine va_get (D := D) (ci := 1) (v := .ref (dd 9 0)) (C := RX1) (T := TX1) (N := 3) hx hb hts hi1 hown hE.1 hP 14 rfl rfl 0 (by decide) hw3 (fun _ h9 => h9) rfl dX8_restore_37 ?_
        obtain ⟨q6, hq6, ht⟩ := it_b ht
        have hPc : va_P D vwCl (wg5 cI cZ (dd 0) S0 ++ (wg5 cI cZ (dd 9) S9)) s.heap := hP.sub [0, 1, 2, 3, 4, 5, 6, 7, 8, 9, 15, 16, 17, 18, 19, 20, 21, 22, 23, 24] rfl
        have hDc : va_D A (wg5 cI cZ (dd 0) S0 ++ (wg5 cI cZ (dd 9) S9)) := ((hD S0 S6 S8 S9 S10 S11 S12 S13)).sub [0, 1, 2, 3, 4, 5, 6, 7, 8, 9, 15, 16, 17, 18, 19, 20, 21, 22, 23, 24] (by decide) rfl
        have hFc := va_free (wc := (wg5 cI cZ (dd 0) S0 ++ (wg5 cI cZ (dd 9) S9))) (hD S0 S6 S8 S9 S10 S11 S12 S13) hS hA [0, 1, 2, 3, 4, 5, 6, 7, 8, 9, 15, 16, 17, 18, 19, 20, 21, 22, 23, 24] rfl
        refine q_mv (va_runV (As := [.ref (dd 9 0)]) (rest := []) ⟨hx, hb, hml, hown, hts⟩ (kX5_copyFrom l D cI cZ cO (dd 0) (dd 9) s.heap.size S0 S9 q6 hq6) (cwV 1 hts gX8_restore_X5_copyFrom rfl rfl rfl (by decide +kernel) ⟨Nat.le_of_ble_eq_true rfl, Nat.le_of_ble_eq_true rfl⟩) (q_mV (As := [.ref (dd 9 0)]) hE hPc hDc (q0 := 0) (ci := 5) rfl rfl) rfl rfl hl.1 rfl (lv_room (Nat.le_of_ble_eq_true rfl)) dX8_restore_40 ⟨Nat.le_of_ble_eq_true rfl, Nat.le_of_ble_eq_true rfl⟩) hS hFc (fun H locs hP1 hk hS => ?_)
        have hP : va_P D vwCl (wg5 cI cZ (dd 0) q6 ++ (wg7 cI cZ (dd 6) S6 ++ (wg1 (dd 8) (dd 9) (dd 10) S8 ++ (wg5 cI cZ (dd 9) S9 ++ (wg7 cI cZ (dd 10) S10 ++ (wg1 (dd 11) (dd 12) (dd 13) S11 ++ (wg5 cI cZ (dd 12) S12 ++ (wg7 cI cZ (dd 13) S13 ++ (wg8 dd ++ (wgi cO dd)))))))))) H := (q_join (wr := (wg7 cI cZ (dd 6) S6 ++ (wg1 (dd 8) (dd 9) (dd 10) S8 ++ (wg7 cI cZ (dd 10) S10 ++ (wg1 (dd 11) (dd 12) (dd 13) S11 ++ (wg5 cI cZ (dd 12) S12 ++ (wg7 cI cZ (dd 13) S13 ++ (wg8 dd ++ (wgi cO dd))))))))) hP (hD S0 S6 S8 S9 S10 S11 S12 S13) [0, 1, 2, 3, 4, 5, 6, 7, 8, 9, 15, 16, 17, 18, 19, 20, 21, 22, 23, 24] [10, 11, 12, 13, 14, 25, 26, 27, 28, 29, 30, 31, 32, 33, 34, 35, 36, 37, 38, 39, 40, 41, 42, 43, 44, 45] rfl rfl (by decide) (by decide) hk hFc hP1 hDc rfl).sub [26, 27, 28, 29, 30, 31, 32, 33, 34, 35, 0, 1, 2, 3, 4, 36, 37, 38, 39, 40, 41, 42, 43, 44, 45, 5, 6, 7, 8, 9, 10, 11, 12, 13, 14, 15, 16, 17, 18, 19, 20, 21, 22, 23, 24, 25] rfl
        refine lv_aload_n hx hb dX8_restore_43 rfl (lv_at hl 0 rfl) ?_
        refine va_get (D := D) (ci := 8) (v := .ref (dd 6 0)) (C := RX8) (T := TX8) (N := 7) hx hb hts hi8 hown hE.1 hP 44 rfl rfl 4 (by decide) hw4 (fun _ h9 => h9) rfl dX8_restore_44 ?_
        refine lv_aload_n hx hb dX8_restore_47 rfl (lv_at hl 0 rfl) ?_
        refine va_get (D := D) (ci := 8) (v := .ref (dd 14 1)) (C := RX8) (T := TX8) (N := 7) hx hb hts hi8 hown hE.1 hP 44 rfl rfl 6 (by decide) hw0 (fun _ h9 => h9) rfl dX8_restore_48 ?_
        refine lv_iload_n hx hb dX8_restore_51 rfl (lv_at hl 1 rfl) ?_
        refine va_aldq hx hb hE.1 hP 45 2 rfl rfl (by rw [c3]; exact q_in (by decide +kernel)) dX8_restore_52 ?_
        rw [show va_rf ((va_up (va_up (fun _ => none) (0 : Int32).toNatClampNeg (some (dd 8 0))) (1 : Int32).toNatClampNeg (some (dd 11 0))) p0.toNatClampNeg) = .ref (dd 8 0) by rw [c3]; rfl]
        refine va_get (D := D) (ci := 1) (v := .ref (dd 10 0)) (C := RX1) (T := TX1) (N := 3) hx hb hts hi1 hown hE.1 hP 14 rfl rfl 1 (by decide) hw5 (fun _ h9 => h9) rfl dX8_restore_53 ?_
        obtain ⟨q7, hq7, ht⟩ := it_b ht
        have hPc : va_P D vwCl (wg7 cI cZ (dd 6) S6 ++ (wg7 cI cZ (dd 10) S10)) H := hP.sub [10, 11, 12, 13, 25, 26, 27, 28] rfl
        have hDc : va_D A (wg7 cI cZ (dd 6) S6 ++ (wg7 cI cZ (dd 10) S10)) := ((hD q6 S6 S8 S9 S10 S11 S12 S13)).sub [10, 11, 12, 13, 25, 26, 27, 28] (by decide) rfl
        have hFc := va_free (wc := (wg7 cI cZ (dd 6) S6 ++ (wg7 cI cZ (dd 10) S10))) (hD q6 S6 S8 S9 S10 S11 S12 S13) hS hA [10, 11, 12, 13, 25, 26, 27, 28] rfl
        refine q_mv (va_runV (As := [.ref (dd 10 0)]) (rest := []) ⟨hx, hb, hml, hown, hts⟩ (kX7_copyFrom l D cI cZ cO (dd 6) (dd 10) H.size S6 S10 q7 hq7) (cwV 1 hts gX8_restore_X7_copyFrom rfl rfl rfl (by decide +kernel) ⟨Nat.le_of_ble_eq_true rfl, Nat.le_of_ble_eq_true rfl⟩) (q_mV (As := [.ref (dd 10 0)]) hE hPc hDc (q0 := 0) (ci := 7) rfl rfl) rfl rfl hl.1 rfl (lv_room (Nat.le_of_ble_eq_true rfl)) dX8_restore_56 ⟨Nat.le_of_ble_eq_true rfl, Nat.le_of_ble_eq_true rfl⟩) hS hFc (fun H locs hP1 hk hS => ?_)
        have hP : va_P D vwCl (wg5 cI cZ (dd 0) q6 ++ (wg7 cI cZ (dd 6) q7 ++ (wg1 (dd 8) (dd 9) (dd 10) S8 ++ (wg5 cI cZ (dd 9) S9 ++ (wg7 cI cZ (dd 10) S10 ++ (wg1 (dd 11) (dd 12) (dd 13) S11 ++ (wg5 cI cZ (dd 12) S12 ++ (wg7 cI cZ (dd 13) S13 ++ (wg8 dd ++ (wgi cO dd)))))))))) H := (q_join (wr := (wg5 cI cZ (dd 0) q6 ++ (wg1 (dd 8) (dd 9) (dd 10) S8 ++ (wg5 cI cZ (dd 9) S9 ++ (wg1 (dd 11) (dd 12) (dd 13) S11 ++ (wg5 cI cZ (dd 12) S12 ++ (wg7 cI cZ (dd 13) S13 ++ (wg8 dd ++ (wgi cO dd))))))))) hP (hD q6 S6 S8 S9 S10 S11 S12 S13) [10, 11, 12, 13, 25, 26, 27, 28] [0, 1, 2, 3, 4, 5, 6, 7, 8, 9, 14, 15, 16, 17, 18, 19, 20, 21, 22, 23, 24, 29, 30, 31, 32, 33, 34, 35, 36, 37, 38, 39, 40, 41, 42, 43, 44, 45] rfl rfl (by decide) (by decide) hk hFc hP1 hDc rfl).sub [0, 1, 2, 3, 4, 5, 6, 7, 8, 9, 38, 39, 40, 41, 10, 11, 12, 13, 14, 15, 16, 17, 18, 19, 20, 42, 43, 44, 45, 21, 22, 23, 24, 25, 26, 27, 28, 29, 30, 31, 32, 33, 34, 35, 36, 37] rfl
        refine lv_iconst (v := 1) hx hb dX8_restore_59 (by decide) ?_
        obtain rfl := Option.some.inj ht
        exact W.iret (v := 1) hx hb hr (fun t e1 hW => ⟨⟨_, (), rfl, ⟨rfl, trivial⟩, q_at e1 hP⟩, hS.F e1⟩) hS.2.2 dX8_restore_60
      · have ht := it_p c5 ht
        refine lv_bipush (v := (-3)) hx hb dX8_restore_24 (by decide) ?_
        obtain rfl := Option.some.inj ht
        exact W.iret (v := (-3)) hx hb hr (fun t e1 hW => ⟨⟨_, (), rfl, ⟨rfl, trivial⟩, q_at e1 hP⟩, hS.F e1⟩) hS.2.2 dX8_restore_26
    have ht := it_n c3 ht
    by_cases c4 : p0 = 1
    · have ht := it_p c4 ht
      refine va_aldq hx hb hE.1 hP 45 2 rfl rfl (by rw [c4]; exact q_in (by decide +kernel)) dX8_restore_17 ?_
      rw [show va_rf ((va_up (va_up (fun _ => none) (0 : Int32).toNatClampNeg (some (dd 8 0))) (1 : Int32).toNatClampNeg (some (dd 11 0))) p0.toNatClampNeg) = .ref (dd 11 0) by rw [c4]; rfl]
      refine va_get (D := D) (ci := 1) (v := .int (S11 2 0)) (C := RX1) (T := TX1) (N := 3) hx hb hts hi1 hown hE.1 hP 29 rfl rfl 2 (by decide) hw1 (fun _ h9 => h9) rfl dX8_restore_18 ?_
      refine lv_if_ne (tgt := 27) hx hb dX8_restore_21 (by decide) (fun c8 => ?_) (fun c8 => ?_)
      · have ht := it_n c8 ht
        refine lv_aload_n hx hb dX8_restore_27 rfl (lv_at hl 0 rfl) ?_
        refine va_get (D := D) (ci := 8) (v := .ref (dd 0 0)) (C := RX8) (T := TX8) (N := 7) hx hb hts hi8 hown hE.1 hP 44 rfl rfl 0 (by decide) hw2 (fun _ h9 => h9) rfl dX8_restore_28 ?_
        refine lv_aload_n hx hb dX8_restore_31 rfl (lv_at hl 0 rfl) ?_
        refine va_get (D := D) (ci := 8) (v := .ref (dd 14 1)) (C := RX8) (T := TX8) (N := 7) hx hb hts hi8 hown hE.1 hP 44 rfl rfl 6 (by decide) hw0 (fun _ h9 => h9) rfl dX8_restore_32 ?_
        refine lv_iload_n hx hb dX8_restore_35 rfl (lv_at hl 1 rfl) ?_
        refine va_aldq hx hb hE.1 hP 45 2 rfl rfl (by rw [c4]; exact q_in (by decide +kernel)) dX8_restore_36 ?_
        rw [show va_rf ((va_up (va_up (fun _ => none) (0 : Int32).toNatClampNeg (some (dd 8 0))) (1 : Int32).toNatClampNeg (some (dd 11 0))) p0.toNatClampNeg) = .ref (dd 11 0) by rw [c4]; rfl]
        refine va_get (D := D) (ci := 1) (v := .ref (dd 12 0)) (C := RX1) (T := TX1) (N := 3) hx hb hts hi1 hown hE.1 hP 29 rfl rfl 0 (by decide) hw3 (fun _ h9 => h9) rfl dX8_restore_37 ?_
        obtain ⟨q9, hq9, ht⟩ := it_b ht
        have hPc : va_P D vwCl (wg5 cI cZ (dd 0) S0 ++ (wg5 cI cZ (dd 12) S12)) s.heap := hP.sub [0, 1, 2, 3, 4, 5, 6, 7, 8, 9, 30, 31, 32, 33, 34, 35, 36, 37, 38, 39] rfl
        have hDc : va_D A (wg5 cI cZ (dd 0) S0 ++ (wg5 cI cZ (dd 12) S12)) := ((hD S0 S6 S8 S9 S10 S11 S12 S13)).sub [0, 1, 2, 3, 4, 5, 6, 7, 8, 9, 30, 31, 32, 33, 34, 35, 36, 37, 38, 39] (by decide) rfl
        have hFc := va_free (wc := (wg5 cI cZ (dd 0) S0 ++ (wg5 cI cZ (dd 12) S12))) (hD S0 S6 S8 S9 S10 S11 S12 S13) hS hA [0, 1, 2, 3, 4, 5, 6, 7, 8, 9, 30, 31, 32, 33, 34, 35, 36, 37, 38, 39] rfl
        refine q_mv (va_runV (As := [.ref (dd 12 0)]) (rest := []) ⟨hx, hb, hml, hown, hts⟩ (kX5_copyFrom l D cI cZ cO (dd 0) (dd 12) s.heap.size S0 S12 q9 hq9) (cwV 1 hts gX8_restore_X5_copyFrom rfl rfl rfl (by decide +kernel) ⟨Nat.le_of_ble_eq_true rfl, Nat.le_of_ble_eq_true rfl⟩) (q_mV (As := [.ref (dd 12 0)]) hE hPc hDc (q0 := 0) (ci := 5) rfl rfl) rfl rfl hl.1 rfl (lv_room (Nat.le_of_ble_eq_true rfl)) dX8_restore_40 ⟨Nat.le_of_ble_eq_true rfl, Nat.le_of_ble_eq_true rfl⟩) hS hFc (fun H locs hP1 hk hS => ?_)
        have hP : va_P D vwCl (wg5 cI cZ (dd 0) q9 ++ (wg7 cI cZ (dd 6) S6 ++ (wg1 (dd 8) (dd 9) (dd 10) S8 ++ (wg5 cI cZ (dd 9) S9 ++ (wg7 cI cZ (dd 10) S10 ++ (wg1 (dd 11) (dd 12) (dd 13) S11 ++ (wg5 cI cZ (dd 12) S12 ++ (wg7 cI cZ (dd 13) S13 ++ (wg8 dd ++ (wgi cO dd)))))))))) H := (q_join (wr := (wg7 cI cZ (dd 6) S6 ++ (wg1 (dd 8) (dd 9) (dd 10) S8 ++ (wg5 cI cZ (dd 9) S9 ++ (wg7 cI cZ (dd 10) S10 ++ (wg1 (dd 11) (dd 12) (dd 13) S11 ++ (wg7 cI cZ (dd 13) S13 ++ (wg8 dd ++ (wgi cO dd))))))))) hP (hD S0 S6 S8 S9 S10 S11 S12 S13) [0, 1, 2, 3, 4, 5, 6, 7, 8, 9, 30, 31, 32, 33, 34, 35, 36, 37, 38, 39] [10, 11, 12, 13, 14, 15, 16, 17, 18, 19, 20, 21, 22, 23, 24, 25, 26, 27, 28, 29, 40, 41, 42, 43, 44, 45] rfl rfl (by decide) (by decide) hk hFc hP1 hDc rfl).sub [26, 27, 28, 29, 30, 31, 32, 33, 34, 35, 0, 1, 2, 3, 4, 5, 6, 7, 8, 9, 10, 11, 12, 13, 14, 15, 16, 17, 18, 19, 36, 37, 38, 39, 40, 41, 42, 43, 44, 45, 20, 21, 22, 23, 24, 25] rfl
        refine lv_aload_n hx hb dX8_restore_43 rfl (lv_at hl 0 rfl) ?_
        refine va_get (D := D) (ci := 8) (v := .ref (dd 6 0)) (C := RX8) (T := TX8) (N := 7) hx hb hts hi8 hown hE.1 hP 44 rfl rfl 4 (by decide) hw4 (fun _ h9 => h9) rfl dX8_restore_44 ?_
        refine lv_aload_n hx hb dX8_restore_47 rfl (lv_at hl 0 rfl) ?_
        refine va_get (D := D) (ci := 8) (v := .ref (dd 14 1)) (C := RX8) (T := TX8) (N := 7) hx hb hts hi8 hown hE.1 hP 44 rfl rfl 6 (by decide) hw0 (fun _ h9 => h9) rfl dX8_restore_48 ?_
        refine lv_iload_n hx hb dX8_restore_51 rfl (lv_at hl 1 rfl) ?_
        refine va_aldq hx hb hE.1 hP 45 2 rfl rfl (by rw [c4]; exact q_in (by decide +kernel)) dX8_restore_52 ?_
        rw [show va_rf ((va_up (va_up (fun _ => none) (0 : Int32).toNatClampNeg (some (dd 8 0))) (1 : Int32).toNatClampNeg (some (dd 11 0))) p0.toNatClampNeg) = .ref (dd 11 0) by rw [c4]; rfl]
        refine va_get (D := D) (ci := 1) (v := .ref (dd 13 0)) (C := RX1) (T := TX1) (N := 3) hx hb hts hi1 hown hE.1 hP 29 rfl rfl 1 (by decide) hw5 (fun _ h9 => h9) rfl dX8_restore_53 ?_
        obtain ⟨q10, hq10, ht⟩ := it_b ht
        have hPc : va_P D vwCl (wg7 cI cZ (dd 6) S6 ++ (wg7 cI cZ (dd 13) S13)) H := hP.sub [10, 11, 12, 13, 40, 41, 42, 43] rfl
        have hDc : va_D A (wg7 cI cZ (dd 6) S6 ++ (wg7 cI cZ (dd 13) S13)) := ((hD q9 S6 S8 S9 S10 S11 S12 S13)).sub [10, 11, 12, 13, 40, 41, 42, 43] (by decide) rfl
        have hFc := va_free (wc := (wg7 cI cZ (dd 6) S6 ++ (wg7 cI cZ (dd 13) S13))) (hD q9 S6 S8 S9 S10 S11 S12 S13) hS hA [10, 11, 12, 13, 40, 41, 42, 43] rfl
        refine q_mv (va_runV (As := [.ref (dd 13 0)]) (rest := []) ⟨hx, hb, hml, hown, hts⟩ (kX7_copyFrom l D cI cZ cO (dd 6) (dd 13) H.size S6 S13 q10 hq10) (cwV 1 hts gX8_restore_X7_copyFrom rfl rfl rfl (by decide +kernel) ⟨Nat.le_of_ble_eq_true rfl, Nat.le_of_ble_eq_true rfl⟩) (q_mV (As := [.ref (dd 13 0)]) hE hPc hDc (q0 := 0) (ci := 7) rfl rfl) rfl rfl hl.1 rfl (lv_room (Nat.le_of_ble_eq_true rfl)) dX8_restore_56 ⟨Nat.le_of_ble_eq_true rfl, Nat.le_of_ble_eq_true rfl⟩) hS hFc (fun H locs hP1 hk hS => ?_)
        have hP : va_P D vwCl (wg5 cI cZ (dd 0) q9 ++ (wg7 cI cZ (dd 6) q10 ++ (wg1 (dd 8) (dd 9) (dd 10) S8 ++ (wg5 cI cZ (dd 9) S9 ++ (wg7 cI cZ (dd 10) S10 ++ (wg1 (dd 11) (dd 12) (dd 13) S11 ++ (wg5 cI cZ (dd 12) S12 ++ (wg7 cI cZ (dd 13) S13 ++ (wg8 dd ++ (wgi cO dd)))))))))) H := (q_join (wr := (wg5 cI cZ (dd 0) q9 ++ (wg1 (dd 8) (dd 9) (dd 10) S8 ++ (wg5 cI cZ (dd 9) S9 ++ (wg7 cI cZ (dd 10) S10 ++ (wg1 (dd 11) (dd 12) (dd 13) S11 ++ (wg5 cI cZ (dd 12) S12 ++ (wg8 dd ++ (wgi cO dd))))))))) hP (hD q9 S6 S8 S9 S10 S11 S12 S13) [10, 11, 12, 13, 40, 41, 42, 43] [0, 1, 2, 3, 4, 5, 6, 7, 8, 9, 14, 15, 16, 17, 18, 19, 20, 21, 22, 23, 24, 25, 26, 27, 28, 29, 30, 31, 32, 33, 34, 35, 36, 37, 38, 39, 44, 45] rfl rfl (by decide) (by decide) hk hFc hP1 hDc rfl).sub [0, 1, 2, 3, 4, 5, 6, 7, 8, 9, 38, 39, 40, 41, 10, 11, 12, 13, 14, 15, 16, 17, 18, 19, 20, 21, 22, 23, 24, 25, 26, 27, 28, 29, 30, 31, 32, 33, 34, 35, 42, 43, 44, 45, 36, 37] rfl
        refine lv_iconst (v := 1) hx hb dX8_restore_59 (by decide) ?_
        obtain rfl := Option.some.inj ht
        exact W.iret (v := 1) hx hb hr (fun t e1 hW => ⟨⟨_, (), rfl, ⟨rfl, trivial⟩, q_at e1 hP⟩, hS.F e1⟩) hS.2.2 dX8_restore_60
      · have ht := it_p c8 ht
        refine lv_bipush (v := (-3)) hx hb dX8_restore_24 (by decide) ?_
        obtain rfl := Option.some.inj ht
        exact W.iret (v := (-3)) hx hb hr (fun t e1 hW => ⟨⟨_, (), rfl, ⟨rfl, trivial⟩, q_at e1 hP⟩, hS.F e1⟩) hS.2.2 dX8_restore_26
    have ht := it_n c4 ht
    exact it_z ht
  · have ht := it_p c2 ht
    refine lv_bipush (v := (-2)) hx hb dX8_restore_9 (by decide) ?_
    obtain rfl := Option.some.inj ht
    exact W.iret (v := (-2)) hx hb hr (fun t e1 hW => ⟨⟨_, (), rfl, ⟨rfl, trivial⟩, q_at e1 hP⟩, hS.F e1⟩) hS.2.2 dX8_restore_11
abbrev rmX8_toldOfAll : Room := { frames := 2, cells := 0, slots := 0, locals := 43 }
set_option maxHeartbeats 4000000 in
set_option maxRecDepth 100000 in
theorem kX8_toldOfAll (l : Launch) (D : va_G) (cI cZ cO : ClassId) (dd : Nat → Nat → Nat) (S0 : St) (S1 : St) (S6 : St) (p0 : Int32) (tg : Int32) (ht : xX8_toldOfAll S0 S1 S6 p0 = some tg) : Met l yX8_toldOfAll wsX8_toldOfAll rmX8_toldOfAll (q_PR D cI cZ cO [.ref (dd 14 0), .int p0] (wg5 cI cZ (dd 0) S0 ++ (wg4 cI cZ (dd 1) S1 ++ (wg7 cI cZ (dd 6) S6 ++ (wg8 dd))))) (vp_Si (fun x => x = tg ∧ True)) 0 0 (fun _ => False) := by
  refine Met.ofW (cc := cX8_toldOfAll) (maxL := 2) (ret := (some .int)) (by decide) rfl ?_
  intro p e s m args below meth c s₁ B hml hv
  obtain ⟨rfl, hE, hP⟩ := hv
  have hx := B.exec
  have hb := B.bytes
  have hr := B.returns
  have hts := atoms_spec (ws := wsX8_toldOfAll) B.pre
  have hown : s.vm.findClass RX8 = some m.cls := findClass_of_methodNamed B.named
  have hlocks := B.notSynchronized
  have hi8 : ∀ w ∈ u_ws RX8 TX8 7, w ∈ wsX8_toldOfAll := by decide +kernel
  have hi4 : ∀ w ∈ u_ws RX4 TX4 2, w ∈ wsX8_toldOfAll := by decide +kernel
  have hi5 : ∀ w ∈ u_ws RX5 TX5 11, w ∈ wsX8_toldOfAll := by decide +kernel
  have hi7 : ∀ w ∈ u_ws RX7 TX7 4, w ∈ wsX8_toldOfAll := by decide +kernel
  have hw0 := hts (.fieldLink RX8 19 "HailNames" "pad" "LHailNames$Pad;") (by decide +kernel)
  have hw1 := hts (.fieldLink RX8 103 "HailNames$Pad" "length" "I") (by decide +kernel)
  have hw2 := hts (.fieldLink RX8 10 "HailNames" "now" "LHailNames$Plain;") (by decide +kernel)
  have hw3 := hts (.fieldLink RX8 135 "HailNames$Plain" "second" "I") (by decide +kernel)
  have hw4 := hts (.fieldLink RX8 96 "HailNames$Plain" "melting" "I") (by decide +kernel)
  have hw5 := hts (.fieldLink RX8 40 "HailNames" "sights" "LHailNames$Sights;") (by decide +kernel)
  have hw6 := hts (.fieldLink RX8 189 "HailNames$Sights" "number" "I") (by decide +kernel)
  have hl := lv_entry ([.ref (dd 14 0), .int p0]) (n := 2) (Nat.le_of_ble_eq_true rfl)
  rw [lg_entry_eq]
  generalize (lg_sl ([.ref (dd 14 0), .int p0]) ++ List.replicate (2 - (lg_sl ([.ref (dd 14 0), .int p0])).length) Slot.unset).toArray = ls at hl ⊢
  have hl : lv_has ls 2 [(0, .ref (dd 14 0)), (1, .int p0)] := hl
  have ht := (xX8_toldOfAll_s S0 S1 S6 p0).symm.trans ht
  refine lv_iload_n hx hb dX8_toldOfAll_0 rfl (lv_at hl 1 rfl) ?_
  by_cases c1 : p0 = 0
  · have ht := it_p c1 ht
    refine lv_tableIn (tgt := 40) hx hb dX8_toldOfAll_1 (by rw [c1]; decide) (by rw [c1]; decide) (by rw [c1]; rfl) (by decide) ?_
    refine lv_aload_n hx hb dX8_toldOfAll_40 rfl (lv_at hl 0 rfl) ?_
    refine va_get (D := D) (ci := 8) (v := .ref (dd 1 0)) (C := RX8) (T := TX8) (N := 7) hx hb hts hi8 hown hE.1 hP 16 rfl rfl 1 (by decide) hw0 (fun _ h9 => h9) rfl dX8_toldOfAll_41 ?_
    refine va_get (D := D) (ci := 4) (v := .int (S1 1 0)) (C := RX4) (T := TX4) (N := 2) hx hb hts hi4 hown hE.1 hP 10 rfl rfl 1 (by decide) hw1 (fun _ h9 => h9) rfl dX8_toldOfAll_44 ?_
    have ht := Option.some.inj ht
    exact W.iret (v := S1 1 0) hx hb hr (fun t e1 hW => ⟨_, rfl, ⟨ht, trivial⟩, e1⟩) (fun q h => absurd h List.not_mem_nil) dX8_toldOfAll_47
  have ht := it_n c1 ht
  by_cases c2 : p0 = 1
  · have ht := it_p c2 ht
    refine lv_tableIn (tgt := 48) hx hb dX8_toldOfAll_1 (by rw [c2]; decide) (by rw [c2]; decide) (by rw [c2]; rfl) (by decide) ?_
    refine lv_aload_n hx hb dX8_toldOfAll_48 rfl (lv_at hl 0 rfl) ?_
    refine va_get (D := D) (ci := 8) (v := .ref (dd 0 0)) (C := RX8) (T := TX8) (N := 7) hx hb hts hi8 hown hE.1 hP 16 rfl rfl 0 (by decide) hw2 (fun _ h9 => h9) rfl dX8_toldOfAll_49 ?_
    refine va_get (D := D) (ci := 5) (v := .int (S0 10 0)) (C := RX5) (T := TX5) (N := 11) hx hb hts hi5 hown hE.1 hP 0 rfl rfl 10 (by decide) hw3 (fun _ h9 => h9) rfl dX8_toldOfAll_52 ?_
    have ht := Option.some.inj ht
    exact W.iret (v := S0 10 0) hx hb hr (fun t e1 hW => ⟨_, rfl, ⟨ht, trivial⟩, e1⟩) (fun q h => absurd h List.not_mem_nil) dX8_toldOfAll_55
  have ht := it_n c2 ht
  by_cases c3 : p0 = 2
  · have ht := it_p c3 ht
    refine lv_tableIn (tgt := 56) hx hb dX8_toldOfAll_1 (by rw [c3]; decide) (by rw [c3]; decide) (by rw [c3]; rfl) (by decide) ?_
    refine lv_aload_n hx hb dX8_toldOfAll_56 rfl (lv_at hl 0 rfl) ?_
    refine va_get (D := D) (ci := 8) (v := .ref (dd 0 0)) (C := RX8) (T := TX8) (N := 7) hx hb hts hi8 hown hE.1 hP 16 rfl rfl 0 (by decide) hw2 (fun _ h9 => h9) rfl dX8_toldOfAll_57 ?_
    refine va_get (D := D) (ci := 5) (v := .int (S0 9 0)) (C := RX5) (T := TX5) (N := 11) hx hb hts hi5 hown hE.1 hP 0 rfl rfl 9 (by decide) hw4 (fun _ h9 => h9) rfl dX8_toldOfAll_60 ?_
    have ht := Option.some.inj ht
    exact W.iret (v := S0 9 0) hx hb hr (fun t e1 hW => ⟨_, rfl, ⟨ht, trivial⟩, e1⟩) (fun q h => absurd h List.not_mem_nil) dX8_toldOfAll_63
  have ht := it_n c3 ht
  by_cases c4 : p0 = 3
  · have ht := it_p c4 ht
    refine lv_tableIn (tgt := 64) hx hb dX8_toldOfAll_1 (by rw [c4]; decide) (by rw [c4]; decide) (by rw [c4]; rfl) (by decide) ?_
    refine lv_aload_n hx hb dX8_toldOfAll_64 rfl (lv_at hl 0 rfl) ?_
    refine va_get (D := D) (ci := 8) (v := .ref (dd 0 0)) (C := RX8) (T := TX8) (N := 7) hx hb hts hi8 hown hE.1 hP 16 rfl rfl 0 (by decide) hw2 (fun _ h9 => h9) rfl dX8_toldOfAll_65 ?_
    obtain ⟨q5, hq5, ht⟩ := it_b ht
    have hPc : va_P D vwCl (wg5 cI cZ (dd 0) S0) s.heap := hP.sub [0, 1, 2, 3, 4, 5, 6, 7, 8, 9] rfl
    refine q_ri (va_runV (As := []) (rest := []) ⟨hx, hb, hml, hown, hts⟩ (kX5_lyingStones l D cI cZ cO (dd 0) S0 q5 hq5) (cwV 0 hts gX8_toldOfAll_X5_lyingStones rfl rfl rfl (by decide +kernel) ⟨Nat.le_of_ble_eq_true rfl, Nat.le_of_ble_eq_true rfl⟩) (q_rV (As := []) hE hPc (q0 := 0) (ci := 5) rfl rfl) rfl rfl hl.1 rfl (lv_room (Nat.le_of_ble_eq_true rfl)) dX8_toldOfAll_68 ⟨Nat.le_of_ble_eq_true rfl, Nat.le_of_ble_eq_true rfl⟩) (fun b6 => ?_)
    have ht := Option.some.inj ht
    exact W.iret (v := q5) hx hb hr (fun t e1 hW => ⟨_, rfl, ⟨ht, trivial⟩, e1⟩) (fun q h => absurd h List.not_mem_nil) dX8_toldOfAll_71
  have ht := it_n c4 ht
  by_cases c7 : p0 = 4
  · have ht := it_p c7 ht
    refine lv_tableIn (tgt := 72) hx hb dX8_toldOfAll_1 (by rw [c7]; decide) (by rw [c7]; decide) (by rw [c7]; rfl) (by decide) ?_
    refine lv_aload_n hx hb dX8_toldOfAll_72 rfl (lv_at hl 0 rfl) ?_
    refine va_get (D := D) (ci := 8) (v := .ref (dd 0 0)) (C := RX8) (T := TX8) (N := 7) hx hb hts hi8 hown hE.1 hP 16 rfl rfl 0 (by decide) hw2 (fun _ h9 => h9) rfl dX8_toldOfAll_73 ?_
    obtain ⟨q8, hq8, ht⟩ := it_b ht
    have hPc : va_P D vwCl (wg5 cI cZ (dd 0) S0) s.heap := hP.sub [0, 1, 2, 3, 4, 5, 6, 7, 8, 9] rfl
    refine q_ri (va_runV (As := []) (rest := []) ⟨hx, hb, hml, hown, hts⟩ (kX5_freeReaders l D cI cZ cO (dd 0) S0 q8 hq8) (cwV 0 hts gX8_toldOfAll_X5_freeReaders rfl rfl rfl (by decide +kernel) ⟨Nat.le_of_ble_eq_true rfl, Nat.le_of_ble_eq_true rfl⟩) (q_rV (As := []) hE hPc (q0 := 0) (ci := 5) rfl rfl) rfl rfl hl.1 rfl (lv_room (Nat.le_of_ble_eq_true rfl)) dX8_toldOfAll_76 ⟨Nat.le_of_ble_eq_true rfl, Nat.le_of_ble_eq_true rfl⟩) (fun b9 => ?_)
    have ht := Option.some.inj ht
    exact W.iret (v := q8) hx hb hr (fun t e1 hW => ⟨_, rfl, ⟨ht, trivial⟩, e1⟩) (fun q h => absurd h List.not_mem_nil) dX8_toldOfAll_79
  have ht := it_n c7 ht
  by_cases c10 : p0 = 5
  · have ht := it_p c10 ht
    refine lv_tableIn (tgt := 80) hx hb dX8_toldOfAll_1 (by rw [c10]; decide) (by rw [c10]; decide) (by rw [c10]; rfl) (by decide) ?_
    refine lv_aload_n hx hb dX8_toldOfAll_80 rfl (lv_at hl 0 rfl) ?_
    refine va_get (D := D) (ci := 8) (v := .ref (dd 6 0)) (C := RX8) (T := TX8) (N := 7) hx hb hts hi8 hown hE.1 hP 16 rfl rfl 4 (by decide) hw5 (fun _ h9 => h9) rfl dX8_toldOfAll_81 ?_
    refine va_get (D := D) (ci := 7) (v := .int (S6 3 0)) (C := RX7) (T := TX7) (N := 4) hx hb hts hi7 hown hE.1 hP 12 rfl rfl 3 (by decide) hw6 (fun _ h9 => h9) rfl dX8_toldOfAll_84 ?_
    have ht := Option.some.inj ht
    exact W.iret (v := S6 3 0) hx hb hr (fun t e1 hW => ⟨_, rfl, ⟨ht, trivial⟩, e1⟩) (fun q h => absurd h List.not_mem_nil) dX8_toldOfAll_87
  have ht := it_n c10 ht
  refine lv_tableOut (tgt := 88) hx hb dX8_toldOfAll_1 (by have n0 := lv_neT c1 (show (0 : Int32).toInt = 0 by decide); have n1 := lv_neT c2 (show (1 : Int32).toInt = 1 by decide); have n2 := lv_neT c3 (show (2 : Int32).toInt = 2 by decide); have n3 := lv_neT c4 (show (3 : Int32).toInt = 3 by decide); have n4 := lv_neT c7 (show (4 : Int32).toInt = 4 by decide); have n5 := lv_neT c10 (show (5 : Int32).toInt = 5 by decide); omega) (by decide) ?_
  refine lv_bipush (v := (-2)) hx hb dX8_toldOfAll_88 (by decide) ?_
  have ht := Option.some.inj ht
  exact W.iret (v := (-2)) hx hb hr (fun t e1 hW => ⟨_, rfl, ⟨ht, trivial⟩, e1⟩) (fun q h => absurd h List.not_mem_nil) dX8_toldOfAll_90
abbrev rmX8_told : Room := { frames := 3, cells := 0, slots := 0, locals := 64 }
set_option maxHeartbeats 4000000 in
set_option maxRecDepth 100000 in
theorem kX8_told (l : Launch) (D : va_G) (cI cZ cO : ClassId) (dd : Nat → Nat → Nat) (S0 : St) (S1 : St) (S6 : St) (p0 : Int32) (tg : Int32) (ht : xX8_told S0 S1 S6 p0 = some tg) : Met l yX8_told wsX8_told rmX8_told (q_PR D cI cZ cO [.ref (dd 14 0), .int p0] (wg5 cI cZ (dd 0) S0 ++ (wg4 cI cZ (dd 1) S1 ++ (wg7 cI cZ (dd 6) S6 ++ (wg8 dd))))) (vp_Si (fun x => x = tg ∧ True)) 0 0 (fun _ => False) := by
  refine Met.ofW (cc := cX8_told) (maxL := 4) (ret := (some .int)) (by decide) rfl ?_
  intro p e s m args below meth c s₁ B hml hv
  obtain ⟨rfl, hE, hP⟩ := hv
  have hx := B.exec
  have hb := B.bytes
  have hr := B.returns
  have hts := atoms_spec (ws := wsX8_told) B.pre
  have hown : s.vm.findClass RX8 = some m.cls := findClass_of_methodNamed B.named
  have hlocks := B.notSynchronized
  have hi8 : ∀ w ∈ u_ws RX8 TX8 7, w ∈ wsX8_told := by decide +kernel
  have hw0 := hts (.fieldLink RX8 10 "HailNames" "now" "LHailNames$Plain;") (by decide +kernel)
  have hl := lv_entry ([.ref (dd 14 0), .int p0]) (n := 4) (Nat.le_of_ble_eq_true rfl)
  rw [lg_entry_eq]
  generalize (lg_sl ([.ref (dd 14 0), .int p0]) ++ List.replicate (4 - (lg_sl ([.ref (dd 14 0), .int p0])).length) Slot.unset).toArray = ls at hl ⊢
  have hl : lv_has ls 4 [(0, .ref (dd 14 0)), (1, .int p0)] := hl
  have ht := (xX8_told_s S0 S1 S6 p0).symm.trans ht
  refine lv_iload_n hx hb dX8_told_0 rfl (lv_at hl 1 rfl) ?_
  refine lv_iconst (v := 0) hx hb dX8_told_1 (by decide) ?_
  refine lv_bipush (v := 89) hx hb dX8_told_2 (by decide) ?_
  refine q_ri (va_runS (As := [.int p0, .int 0, .int 89]) (rest := []) ⟨hx, hb, hml, hown, hts⟩ (kX8_within l D cI cZ cO p0 0 89) (va_cwS 3 hts gX8_told_X8_within rfl rfl rfl (by decide +kernel) ⟨Nat.le_of_ble_eq_true rfl, Nat.le_of_ble_eq_true rfl⟩) (q_rS hE q_nil) rfl rfl hl.1 rfl (lv_room (Nat.le_of_ble_eq_true rfl)) dX8_told_4 ⟨Nat.le_of_ble_eq_true rfl, Nat.le_of_ble_eq_true rfl⟩) (fun b1 => ?_)
  refine lv_if_ne (tgt := 13) hx hb dX8_told_7 (by decide) (fun c2 => ?_) (fun c2 => ?_)
  · have ht := it_n c2 ht
    refine lv_iload_n hx hb dX8_told_13 rfl (lv_at hl 1 rfl) ?_
    refine lv_bipush (v := 10) hx hb dX8_told_14 (by decide) ?_
    refine lv_idiv hx hb dX8_told_16 (by decide +kernel) ?_
    refine lv_istore_n (lv' := [(2, .int (p0 / 10)), (0, .ref (dd 14 0)), (1, .int p0)]) hx hb dX8_told_17 rfl hl (by decide) rfl (fun ls hl => ?_)
    refine lv_iload_n hx hb dX8_told_18 rfl (lv_at hl 2 rfl) ?_
    refine lv_bipush (v := 10) hx hb dX8_told_19 (by decide) ?_
    refine q_irem hx hb dX8_told_21 (by decide +kernel) ?_
    refine lv_istore_n (lv' := [(3, .int (q_rem p0 10)), (2, .int (p0 / 10)), (0, .ref (dd 14 0)), (1, .int p0)]) hx hb dX8_told_22 rfl hl (by decide) rfl (fun ls hl => ?_)
    refine lv_iload_n hx hb dX8_told_23 rfl (lv_at hl 1 rfl) ?_
    refine lv_if_ne (tgt := 33) hx hb dX8_told_24 (by decide) (fun c3 => ?_) (fun c3 => ?_)
    · have ht := it_n c3 ht
      refine lv_iload_n hx hb dX8_told_33 rfl (lv_at hl 1 rfl) ?_
      refine lv_iconst (v := 5) hx hb dX8_told_34 (by decide) ?_
      refine lv_icmp_gt (tgt := 62) hx hb dX8_told_35 (by decide) (fun c4 => ?_) (fun c4 => ?_)
      · have ht := it_p c4 ht
        refine lv_iload_n hx hb dX8_told_62 rfl (lv_at hl 0 rfl) ?_
        refine q_ri (va_runS (As := [.int (q_rem p0 10)]) (rest := []) ⟨hx, hb, hml, hown, hts⟩ (kX8_isReader l D cI cZ cO (q_rem p0 10)) (va_cwS 1 hts gX8_told_X8_isReader rfl rfl rfl (by decide +kernel) ⟨Nat.le_of_ble_eq_true rfl, Nat.le_of_ble_eq_true rfl⟩) (q_rS hE q_nil) rfl rfl hl.1 rfl (lv_room (Nat.le_of_ble_eq_true rfl)) dX8_told_63 ⟨Nat.le_of_ble_eq_true rfl, Nat.le_of_ble_eq_true rfl⟩) (fun b5 => ?_)
        refine lv_if_eq (tgt := 84) hx hb dX8_told_66 (by decide) (fun c6 => ?_) (fun c6 => ?_)
        · have ht := it_p c6 ht
          refine lv_bipush (v := (-2)) hx hb dX8_told_84 (by decide) ?_
          have ht := Option.some.inj ht
          exact W.iret (v := (-2)) hx hb hr (fun t e1 hW => ⟨_, rfl, ⟨ht, trivial⟩, e1⟩) (fun q h => absurd h List.not_mem_nil) dX8_told_86
        · have ht := it_n c6 ht
          refine lv_aload_n hx hb dX8_told_69 rfl (lv_at hl 2 rfl) ?_
          refine va_get (D := D) (ci := 8) (v := .ref (dd 0 0)) (C := RX8) (T := TX8) (N := 7) hx hb hts hi8 hown hE.1 hP 16 rfl rfl 0 (by decide) hw0 (fun _ h9 => h9) rfl dX8_told_70 ?_
          refine lv_iload_n hx hb dX8_told_73 rfl (lv_at hl 0 rfl) ?_
          refine lv_iload_n hx hb dX8_told_74 rfl (lv_at hl 1 rfl) ?_
          refine lv_bipush (v := 6) hx hb dX8_told_75 (by decide) ?_
          refine lv_isub hx hb dX8_told_77 ?_
          obtain ⟨q7, hq7, ht⟩ := it_b ht
          have hPc : va_P D vwCl (wg5 cI cZ (dd 0) S0) s.heap := hP.sub [0, 1, 2, 3, 4, 5, 6, 7, 8, 9] rfl
          refine q_ri (va_runV (As := [.int (q_rem p0 10), .int ((p0 / 10) - 6)]) (rest := []) ⟨hx, hb, hml, hown, hts⟩ (kX5_ofReader l D cI cZ cO (dd 0) S0 (q_rem p0 10) ((p0 / 10) - 6) q7 hq7) (cwV 2 hts gX8_told_X5_ofReader rfl rfl rfl (by decide +kernel) ⟨Nat.le_of_ble_eq_true rfl, Nat.le_of_ble_eq_true rfl⟩) (q_rV (As := [.int (q_rem p0 10), .int ((p0 / 10) - 6)]) hE hPc (q0 := 0) (ci := 5) rfl rfl) rfl rfl hl.1 rfl (lv_room (Nat.le_of_ble_eq_true rfl)) dX8_told_78 ⟨Nat.le_of_ble_eq_true rfl, Nat.le_of_ble_eq_true rfl⟩) (fun b8 => ?_)
          refine lv_goto (tgt := 86) hx hb dX8_told_81 (by decide) ?_
          have ht := Option.some.inj ht
          exact W.iret (v := q7) hx hb hr (fun t e1 hW => ⟨_, rfl, ⟨ht, trivial⟩, e1⟩) (fun q h => absurd h List.not_mem_nil) dX8_told_86
      · have ht := it_n c4 ht
        refine lv_iload_n hx hb dX8_told_38 rfl (lv_at hl 0 rfl) ?_
        refine q_ri (va_runS (As := [.int (q_rem p0 10)]) (rest := []) ⟨hx, hb, hml, hown, hts⟩ (kX8_isPerson l D cI cZ cO (q_rem p0 10)) (va_cwS 1 hts gX8_told_X8_isPerson rfl rfl rfl (by decide +kernel) ⟨Nat.le_of_ble_eq_true rfl, Nat.le_of_ble_eq_true rfl⟩) (q_rS hE q_nil) rfl rfl hl.1 rfl (lv_room (Nat.le_of_ble_eq_true rfl)) dX8_told_39 ⟨Nat.le_of_ble_eq_true rfl, Nat.le_of_ble_eq_true rfl⟩) (fun b9 => ?_)
        refine lv_if_eq (tgt := 59) hx hb dX8_told_42 (by decide) (fun c10 => ?_) (fun c10 => ?_)
        · have ht := it_p c10 ht
          refine lv_bipush (v := (-2)) hx hb dX8_told_59 (by decide) ?_
          have ht := Option.some.inj ht
          exact W.iret (v := (-2)) hx hb hr (fun t e1 hW => ⟨_, rfl, ⟨ht, trivial⟩, e1⟩) (fun q h => absurd h List.not_mem_nil) dX8_told_61
        · have ht := it_n c10 ht
          refine lv_aload_n hx hb dX8_told_45 rfl (lv_at hl 2 rfl) ?_
          refine va_get (D := D) (ci := 8) (v := .ref (dd 0 0)) (C := RX8) (T := TX8) (N := 7) hx hb hts hi8 hown hE.1 hP 16 rfl rfl 0 (by decide) hw0 (fun _ h9 => h9) rfl dX8_told_46 ?_
          refine lv_iload_n hx hb dX8_told_49 rfl (lv_at hl 0 rfl) ?_
          refine lv_iload_n hx hb dX8_told_50 rfl (lv_at hl 1 rfl) ?_
          refine lv_iconst (v := 1) hx hb dX8_told_51 (by decide) ?_
          refine lv_isub hx hb dX8_told_52 ?_
          obtain ⟨q11, hq11, ht⟩ := it_b ht
          have hPc : va_P D vwCl (wg5 cI cZ (dd 0) S0) s.heap := hP.sub [0, 1, 2, 3, 4, 5, 6, 7, 8, 9] rfl
          refine q_ri (va_runV (As := [.int (q_rem p0 10), .int ((p0 / 10) - 1)]) (rest := []) ⟨hx, hb, hml, hown, hts⟩ (kX5_ofPerson l D cI cZ cO (dd 0) S0 (q_rem p0 10) ((p0 / 10) - 1) q11 hq11) (cwV 2 hts gX8_told_X5_ofPerson rfl rfl rfl (by decide +kernel) ⟨Nat.le_of_ble_eq_true rfl, Nat.le_of_ble_eq_true rfl⟩) (q_rV (As := [.int (q_rem p0 10), .int ((p0 / 10) - 1)]) hE hPc (q0 := 0) (ci := 5) rfl rfl) rfl rfl hl.1 rfl (lv_room (Nat.le_of_ble_eq_true rfl)) dX8_told_53 ⟨Nat.le_of_ble_eq_true rfl, Nat.le_of_ble_eq_true rfl⟩) (fun b12 => ?_)
          refine lv_goto (tgt := 61) hx hb dX8_told_56 (by decide) ?_
          have ht := Option.some.inj ht
          exact W.iret (v := q11) hx hb hr (fun t e1 hW => ⟨_, rfl, ⟨ht, trivial⟩, e1⟩) (fun q h => absurd h List.not_mem_nil) dX8_told_61
    · have ht := it_p c3 ht
      refine lv_aload_n hx hb dX8_told_27 rfl (lv_at hl 2 rfl) ?_
      refine lv_iload_n hx hb dX8_told_28 rfl (lv_at hl 0 rfl) ?_
      obtain ⟨q13, hq13, ht⟩ := it_b ht
      refine q_ri (va_runV (As := [.int (q_rem p0 10)]) (rest := []) ⟨hx, hb, hml, hown, hts⟩ (kX8_toldOfAll l D cI cZ cO dd S0 S1 S6 (q_rem p0 10) q13 hq13) (cwV 1 hts gX8_told_X8_toldOfAll rfl rfl rfl (by decide +kernel) ⟨Nat.le_of_ble_eq_true rfl, Nat.le_of_ble_eq_true rfl⟩) (q_rV (As := [.int (q_rem p0 10)]) hE hP (q0 := 16) (ci := 8) rfl rfl) rfl rfl hl.1 rfl (lv_room (Nat.le_of_ble_eq_true rfl)) dX8_told_29 ⟨Nat.le_of_ble_eq_true rfl, Nat.le_of_ble_eq_true rfl⟩) (fun b14 => ?_)
      have ht := Option.some.inj ht
      exact W.iret (v := q13) hx hb hr (fun t e1 hW => ⟨_, rfl, ⟨ht, trivial⟩, e1⟩) (fun q h => absurd h List.not_mem_nil) dX8_told_32
  · have ht := it_p c2 ht
    refine lv_bipush (v := (-2)) hx hb dX8_told_10 (by decide) ?_
    have ht := Option.some.inj ht
    exact W.iret (v := (-2)) hx hb hr (fun t e1 hW => ⟨_, rfl, ⟨ht, trivial⟩, e1⟩) (fun q h => absurd h List.not_mem_nil) dX8_told_12
abbrev rmX9_in : Room := { frames := 0, cells := 0, slots := 0, locals := 0 }
set_option maxHeartbeats 4000000 in
set_option maxRecDepth 100000 in
theorem kX9_in (l : Launch) (D : va_G) (cI cZ cO : ClassId) (p0 : Int64) (p1 : Int64) (p2 : Int64) : Met l yX9_in wsX9_in rmX9_in (q_PR D cI cZ cO [.long p0, .long p1, .long p2] ([] : va_W)) (vp_Si (fun x => x = xX9_in p0 p1 p2 ∧ narrow .boolean (.int x) = .int x)) 0 0 (fun _ => False) := by
  refine Met.ofW (cc := cX9_in) (maxL := 6) (ret := (some .boolean)) (by decide) rfl ?_
  intro p e s m args below meth c s₁ B hml hv
  obtain ⟨rfl, hE, hP⟩ := hv
  have hx := B.exec
  have hb := B.bytes
  have hr := B.returns
  have hts := atoms_spec (ws := wsX9_in) B.pre
  have hown : s.vm.findClass RX9 = some m.cls := findClass_of_methodNamed B.named
  have hlocks := B.notSynchronized
  have hl := lv_entry ([.long p0, .long p1, .long p2]) (n := 6) (Nat.le_of_ble_eq_true rfl)
  rw [lg_entry_eq]
  generalize (lg_sl ([.long p0, .long p1, .long p2]) ++ List.replicate (6 - (lg_sl ([.long p0, .long p1, .long p2])).length) Slot.unset).toArray = ls at hl ⊢
  have hl : lv_has ls 6 [(0, .long p0), (2, .long p1), (4, .long p2)] := hl
  have ht := xX9_in_s p0 p1 p2
  obtain ⟨tg, htg⟩ : ∃ z, z = xX9_in p0 p1 p2 := ⟨_, rfl⟩
  rw [← htg] at ht ⊢
  have ht := ht.symm
  refine lv_lload_n hx hb dX9_in_0 rfl (lv_at hl 0 rfl) ?_
  refine lv_lload_n hx hb dX9_in_1 rfl (lv_at hl 1 rfl) ?_
  refine W.lcmp hx hb dX9_in_2 ?_
  refine lv_if_lt (tgt := 17) hx hb dX9_in_3 (by decide) (fun c1 => ?_) (fun c1 => ?_)
  · have ht := it_p c1 ht
    refine lv_iconst (v := 0) hx hb dX9_in_17 (by decide) ?_
    exact W.zret (v := 0) (ty := .boolean) hx hb hr (by decide +kernel) (fun t e1 hW => ⟨_, rfl, ⟨ht, (by decide +kernel)⟩, e1⟩) (fun q h => absurd h List.not_mem_nil) dX9_in_18
  · have ht := it_n c1 ht
    refine lv_lload_n hx hb dX9_in_6 rfl (lv_at hl 0 rfl) ?_
    refine lv_lload hx hb dX9_in_7 (lv_at hl 2 rfl) ?_
    refine W.lcmp hx hb dX9_in_9 ?_
    refine lv_if_gt (tgt := 17) hx hb dX9_in_10 (by decide) (fun c2 => ?_) (fun c2 => ?_)
    · have ht := it_p c2 ht
      refine lv_iconst (v := 0) hx hb dX9_in_17 (by decide) ?_
      exact W.zret (v := 0) (ty := .boolean) hx hb hr (by decide +kernel) (fun t e1 hW => ⟨_, rfl, ⟨ht, (by decide +kernel)⟩, e1⟩) (fun q h => absurd h List.not_mem_nil) dX9_in_18
    · have ht := it_n c2 ht
      refine lv_iconst (v := 1) hx hb dX9_in_13 (by decide) ?_
      refine lv_goto (tgt := 18) hx hb dX9_in_14 (by decide) ?_
      exact W.zret (v := 1) (ty := .boolean) hx hb hr (by decide +kernel) (fun t e1 hW => ⟨_, rfl, ⟨ht, (by decide +kernel)⟩, e1⟩) (fun q h => absurd h List.not_mem_nil) dX9_in_18
abbrev rmX9_isPerson : Room := { frames := 1, cells := 0, slots := 0, locals := 25 }
set_option maxHeartbeats 4000000 in
set_option maxRecDepth 100000 in
theorem kX9_isPerson (l : Launch) (D : va_G) (cI cZ cO : ClassId) (p0 : Int32) : Met l yX9_isPerson wsX9_isPerson rmX9_isPerson (q_PR D cI cZ cO [.int p0] ([] : va_W)) (vp_Si (fun x => x = xX9_isPerson p0 ∧ narrow .boolean (.int x) = .int x)) 0 0 (fun _ => False) := by
  refine Met.ofW (cc := cX9_isPerson) (maxL := 1) (ret := (some .boolean)) (by decide) rfl ?_
  intro p e s m args below meth c s₁ B hml hv
  obtain ⟨rfl, hE, hP⟩ := hv
  have hx := B.exec
  have hb := B.bytes
  have hr := B.returns
  have hts := atoms_spec (ws := wsX9_isPerson) B.pre
  have hown : s.vm.findClass RX9 = some m.cls := findClass_of_methodNamed B.named
  have hlocks := B.notSynchronized
  have hw0 := hts (.constantLong RX9 81 (7)) (by decide +kernel)
  have hl := lv_entry ([.int p0]) (n := 1) (Nat.le_of_ble_eq_true rfl)
  rw [lg_entry_eq]
  generalize (lg_sl ([.int p0]) ++ List.replicate (1 - (lg_sl ([.int p0])).length) Slot.unset).toArray = ls at hl ⊢
  have hl : lv_has ls 1 [(0, .int p0)] := hl
  have ht := xX9_isPerson_s p0
  obtain ⟨tg, htg⟩ : ∃ z, z = xX9_isPerson p0 := ⟨_, rfl⟩
  rw [← htg] at ht ⊢
  have ht := ht.symm
  refine lv_iload_n hx hb dX9_isPerson_0 rfl (lv_at hl 0 rfl) ?_
  refine lv_i2l (v := p0.toInt64) hx hb dX9_isPerson_1 rfl ?_
  refine lv_lconst (v := 0) hx hb dX9_isPerson_2 (by decide) ?_
  refine lv_ldc2 hx hb hown hw0 dX9_isPerson_3 ?_
  refine q_ri (va_runS (As := [.long p0.toInt64, .long 0, .long 7]) (rest := []) ⟨hx, hb, hml, hown, hts⟩ (kX9_in l D cI cZ cO p0.toInt64 0 7) (va_cwS 3 hts gX9_isPerson_X9_in rfl rfl rfl (by decide +kernel) ⟨Nat.le_of_ble_eq_true rfl, Nat.le_of_ble_eq_true rfl⟩) (q_rS hE q_nil) rfl rfl hl.1 rfl (lv_room (Nat.le_of_ble_eq_true rfl)) dX9_isPerson_6 ⟨Nat.le_of_ble_eq_true rfl, Nat.le_of_ble_eq_true rfl⟩) (fun b1 => ?_)
  exact W.zret (v := xX9_in p0.toInt64 0 7) (ty := .boolean) hx hb hr b1 (fun t e1 hW => ⟨_, rfl, ⟨ht, b1⟩, e1⟩) (fun q h => absurd h List.not_mem_nil) dX9_isPerson_9
abbrev rmX9_isReader : Room := { frames := 1, cells := 0, slots := 0, locals := 25 }
set_option maxHeartbeats 4000000 in
set_option maxRecDepth 100000 in
theorem kX9_isReader (l : Launch) (D : va_G) (cI cZ cO : ClassId) (p0 : Int32) : Met l yX9_isReader wsX9_isReader rmX9_isReader (q_PR D cI cZ cO [.int p0] ([] : va_W)) (vp_Si (fun x => x = xX9_isReader p0 ∧ narrow .boolean (.int x) = .int x)) 0 0 (fun _ => False) := by
  refine Met.ofW (cc := cX9_isReader) (maxL := 1) (ret := (some .boolean)) (by decide) rfl ?_
  intro p e s m args below meth c s₁ B hml hv
  obtain ⟨rfl, hE, hP⟩ := hv
  have hx := B.exec
  have hb := B.bytes
  have hr := B.returns
  have hts := atoms_spec (ws := wsX9_isReader) B.pre
  have hown : s.vm.findClass RX9 = some m.cls := findClass_of_methodNamed B.named
  have hlocks := B.notSynchronized
  have hw0 := hts (.constantLong RX9 87 (3)) (by decide +kernel)
  have hl := lv_entry ([.int p0]) (n := 1) (Nat.le_of_ble_eq_true rfl)
  rw [lg_entry_eq]
  generalize (lg_sl ([.int p0]) ++ List.replicate (1 - (lg_sl ([.int p0])).length) Slot.unset).toArray = ls at hl ⊢
  have hl : lv_has ls 1 [(0, .int p0)] := hl
  have ht := xX9_isReader_s p0
  obtain ⟨tg, htg⟩ : ∃ z, z = xX9_isReader p0 := ⟨_, rfl⟩
  rw [← htg] at ht ⊢
  have ht := ht.symm
  refine lv_iload_n hx hb dX9_isReader_0 rfl (lv_at hl 0 rfl) ?_
  refine lv_i2l (v := p0.toInt64) hx hb dX9_isReader_1 rfl ?_
  refine lv_lconst (v := 0) hx hb dX9_isReader_2 (by decide) ?_
  refine lv_ldc2 hx hb hown hw0 dX9_isReader_3 ?_
  refine q_ri (va_runS (As := [.long p0.toInt64, .long 0, .long 3]) (rest := []) ⟨hx, hb, hml, hown, hts⟩ (kX9_in l D cI cZ cO p0.toInt64 0 3) (va_cwS 3 hts gX9_isReader_X9_in rfl rfl rfl (by decide +kernel) ⟨Nat.le_of_ble_eq_true rfl, Nat.le_of_ble_eq_true rfl⟩) (q_rS hE q_nil) rfl rfl hl.1 rfl (lv_room (Nat.le_of_ble_eq_true rfl)) dX9_isReader_6 ⟨Nat.le_of_ble_eq_true rfl, Nat.le_of_ble_eq_true rfl⟩) (fun b1 => ?_)
  exact W.zret (v := xX9_in p0.toInt64 0 3) (ty := .boolean) hx hb hr b1 (fun t e1 hW => ⟨_, rfl, ⟨ht, b1⟩, e1⟩) (fun q h => absurd h List.not_mem_nil) dX9_isReader_9
abbrev rmX9_isCell : Room := { frames := 1, cells := 0, slots := 0, locals := 25 }
set_option maxHeartbeats 4000000 in
set_option maxRecDepth 100000 in
theorem kX9_isCell (l : Launch) (D : va_G) (cI cZ cO : ClassId) (p0 : Int32) : Met l yX9_isCell wsX9_isCell rmX9_isCell (q_PR D cI cZ cO [.int p0] ([] : va_W)) (vp_Si (fun x => x = xX9_isCell p0 ∧ narrow .boolean (.int x) = .int x)) 0 0 (fun _ => False) := by
  refine Met.ofW (cc := cX9_isCell) (maxL := 1) (ret := (some .boolean)) (by decide) rfl ?_
  intro p e s m args below meth c s₁ B hml hv
  obtain ⟨rfl, hE, hP⟩ := hv
  have hx := B.exec
  have hb := B.bytes
  have hr := B.returns
  have hts := atoms_spec (ws := wsX9_isCell) B.pre
  have hown : s.vm.findClass RX9 = some m.cls := findClass_of_methodNamed B.named
  have hlocks := B.notSynchronized
  have hw0 := hts (.constantLong RX9 89 (11)) (by decide +kernel)
  have hl := lv_entry ([.int p0]) (n := 1) (Nat.le_of_ble_eq_true rfl)
  rw [lg_entry_eq]
  generalize (lg_sl ([.int p0]) ++ List.replicate (1 - (lg_sl ([.int p0])).length) Slot.unset).toArray = ls at hl ⊢
  have hl : lv_has ls 1 [(0, .int p0)] := hl
  have ht := xX9_isCell_s p0
  obtain ⟨tg, htg⟩ : ∃ z, z = xX9_isCell p0 := ⟨_, rfl⟩
  rw [← htg] at ht ⊢
  have ht := ht.symm
  refine lv_iload_n hx hb dX9_isCell_0 rfl (lv_at hl 0 rfl) ?_
  refine lv_i2l (v := p0.toInt64) hx hb dX9_isCell_1 rfl ?_
  refine lv_lconst (v := 0) hx hb dX9_isCell_2 (by decide) ?_
  refine lv_ldc2 hx hb hown hw0 dX9_isCell_3 ?_
  refine q_ri (va_runS (As := [.long p0.toInt64, .long 0, .long 11]) (rest := []) ⟨hx, hb, hml, hown, hts⟩ (kX9_in l D cI cZ cO p0.toInt64 0 11) (va_cwS 3 hts gX9_isCell_X9_in rfl rfl rfl (by decide +kernel) ⟨Nat.le_of_ble_eq_true rfl, Nat.le_of_ble_eq_true rfl⟩) (q_rS hE q_nil) rfl rfl hl.1 rfl (lv_room (Nat.le_of_ble_eq_true rfl)) dX9_isCell_6 ⟨Nat.le_of_ble_eq_true rfl, Nat.le_of_ble_eq_true rfl⟩) (fun b1 => ?_)
  exact W.zret (v := xX9_in p0.toInt64 0 11) (ty := .boolean) hx hb hr b1 (fun t e1 hW => ⟨_, rfl, ⟨ht, b1⟩, e1⟩) (fun q h => absurd h List.not_mem_nil) dX9_isCell_9
abbrev rmX9_less : Room := { frames := 0, cells := 0, slots := 0, locals := 0 }
set_option maxHeartbeats 4000000 in
set_option maxRecDepth 100000 in
theorem kX9_less (l : Launch) (D : va_G) (cI cZ cO : ClassId) (p0 : Int32) (p1 : Int32) : Met l yX9_less wsX9_less rmX9_less (q_PR D cI cZ cO [.int p0, .int p1] ([] : va_W)) (vp_Si (fun x => x = xX9_less p0 p1 ∧ True)) 0 0 (fun _ => False) := by
  refine Met.ofW (cc := cX9_less) (maxL := 2) (ret := (some .int)) (by decide) rfl ?_
  intro p e s m args below meth c s₁ B hml hv
  obtain ⟨rfl, hE, hP⟩ := hv
  have hx := B.exec
  have hb := B.bytes
  have hr := B.returns
  have hts := atoms_spec (ws := wsX9_less) B.pre
  have hown : s.vm.findClass RX9 = some m.cls := findClass_of_methodNamed B.named
  have hlocks := B.notSynchronized
  have hl := lv_entry ([.int p0, .int p1]) (n := 2) (Nat.le_of_ble_eq_true rfl)
  rw [lg_entry_eq]
  generalize (lg_sl ([.int p0, .int p1]) ++ List.replicate (2 - (lg_sl ([.int p0, .int p1])).length) Slot.unset).toArray = ls at hl ⊢
  have hl : lv_has ls 2 [(0, .int p0), (1, .int p1)] := hl
  have ht := xX9_less_s p0 p1
  obtain ⟨tg, htg⟩ : ∃ z, z = xX9_less p0 p1 := ⟨_, rfl⟩
  rw [← htg] at ht ⊢
  have ht := ht.symm
  refine lv_iload_n hx hb dX9_less_0 rfl (lv_at hl 0 rfl) ?_
  refine lv_iload_n hx hb dX9_less_1 rfl (lv_at hl 1 rfl) ?_
  refine lv_icmp_ge (tgt := 9) hx hb dX9_less_2 (by decide) (fun c1 => ?_) (fun c1 => ?_)
  · have ht := it_p c1 ht
    refine lv_iload_n hx hb dX9_less_9 rfl (lv_at hl 1 rfl) ?_
    exact W.iret (v := p1) hx hb hr (fun t e1 hW => ⟨_, rfl, ⟨ht, trivial⟩, e1⟩) (fun q h => absurd h List.not_mem_nil) dX9_less_10
  · have ht := it_n c1 ht
    refine lv_iload_n hx hb dX9_less_5 rfl (lv_at hl 0 rfl) ?_
    refine lv_goto (tgt := 10) hx hb dX9_less_6 (by decide) ?_
    exact W.iret (v := p0) hx hb hr (fun t e1 hW => ⟨_, rfl, ⟨ht, trivial⟩, e1⟩) (fun q h => absurd h List.not_mem_nil) dX9_less_10
abbrev rmX9_apart : Room := { frames := 0, cells := 0, slots := 0, locals := 0 }
set_option maxHeartbeats 4000000 in
set_option maxRecDepth 100000 in
theorem kX9_apart (l : Launch) (D : va_G) (cI cZ cO : ClassId) (p0 : Int32) (p1 : Int32) : Met l yX9_apart wsX9_apart rmX9_apart (q_PR D cI cZ cO [.int p0, .int p1] ([] : va_W)) (vp_Si (fun x => x = xX9_apart p0 p1 ∧ True)) 0 0 (fun _ => False) := by
  refine Met.ofW (cc := cX9_apart) (maxL := 2) (ret := (some .int)) (by decide) rfl ?_
  intro p e s m args below meth c s₁ B hml hv
  obtain ⟨rfl, hE, hP⟩ := hv
  have hx := B.exec
  have hb := B.bytes
  have hr := B.returns
  have hts := atoms_spec (ws := wsX9_apart) B.pre
  have hown : s.vm.findClass RX9 = some m.cls := findClass_of_methodNamed B.named
  have hlocks := B.notSynchronized
  have hl := lv_entry ([.int p0, .int p1]) (n := 2) (Nat.le_of_ble_eq_true rfl)
  rw [lg_entry_eq]
  generalize (lg_sl ([.int p0, .int p1]) ++ List.replicate (2 - (lg_sl ([.int p0, .int p1])).length) Slot.unset).toArray = ls at hl ⊢
  have hl : lv_has ls 2 [(0, .int p0), (1, .int p1)] := hl
  have ht := xX9_apart_s p0 p1
  obtain ⟨tg, htg⟩ : ∃ z, z = xX9_apart p0 p1 := ⟨_, rfl⟩
  rw [← htg] at ht ⊢
  have ht := ht.symm
  refine lv_iload_n hx hb dX9_apart_0 rfl (lv_at hl 0 rfl) ?_
  refine lv_iload_n hx hb dX9_apart_1 rfl (lv_at hl 1 rfl) ?_
  refine lv_icmp_ge (tgt := 11) hx hb dX9_apart_2 (by decide) (fun c1 => ?_) (fun c1 => ?_)
  · have ht := it_p c1 ht
    refine lv_iload_n hx hb dX9_apart_11 rfl (lv_at hl 0 rfl) ?_
    refine lv_iload_n hx hb dX9_apart_12 rfl (lv_at hl 1 rfl) ?_
    refine lv_isub hx hb dX9_apart_13 ?_
    exact W.iret (v := p0 - p1) hx hb hr (fun t e1 hW => ⟨_, rfl, ⟨ht, trivial⟩, e1⟩) (fun q h => absurd h List.not_mem_nil) dX9_apart_14
  · have ht := it_n c1 ht
    refine lv_iload_n hx hb dX9_apart_5 rfl (lv_at hl 1 rfl) ?_
    refine lv_iload_n hx hb dX9_apart_6 rfl (lv_at hl 0 rfl) ?_
    refine lv_isub hx hb dX9_apart_7 ?_
    refine lv_goto (tgt := 14) hx hb dX9_apart_8 (by decide) ?_
    exact W.iret (v := p1 - p0) hx hb hr (fun t e1 hW => ⟨_, rfl, ⟨ht, trivial⟩, e1⟩) (fun q h => absurd h List.not_mem_nil) dX9_apart_14
abbrev rmX9_ones : Room := { frames := 0, cells := 0, slots := 0, locals := 0 }
set_option maxHeartbeats 4000000 in
set_option maxRecDepth 100000 in
theorem kX9_ones (l : Launch) (D : va_G) (cI cZ cO : ClassId) (p0 : Int32) (tg : Int32) (ht : xX9_ones p0 = some tg) : Met l yX9_ones wsX9_ones rmX9_ones (q_PR D cI cZ cO [.int p0] ([] : va_W)) (vp_Si (fun x => x = tg ∧ True)) 0 0 (fun _ => False) := by
  refine Met.ofW (cc := cX9_ones) (maxL := 3) (ret := (some .int)) (by decide) rfl ?_
  intro p e s m args below meth c s₁ B hml hv
  obtain ⟨rfl, hE, hP⟩ := hv
  have hx := B.exec
  have hb := B.bytes
  have hr := B.returns
  have hts := atoms_spec (ws := wsX9_ones) B.pre
  have hown : s.vm.findClass RX9 = some m.cls := findClass_of_methodNamed B.named
  have hlocks := B.notSynchronized
  have hl := lv_entry ([.int p0]) (n := 3) (Nat.le_of_ble_eq_true rfl)
  rw [lg_entry_eq]
  generalize (lg_sl ([.int p0]) ++ List.replicate (3 - (lg_sl ([.int p0])).length) Slot.unset).toArray = ls at hl ⊢
  have hl : lv_has ls 3 [(0, .int p0)] := hl
  have ht := (xX9_ones_s p0).symm.trans ht
  obtain ⟨Q, hQ⟩ : ∃ Q, Q = MQ below (vp_Si (fun x => x = tg ∧ True)) ([.int p0] : List Value).toArray s 0 0 (fun _ => False) := ⟨_, rfl⟩
  rw [← hQ]
  have L4 : ∀ (n : Nat) (x1 : Int32) (x2 : Int32) (ls : Array Slot) (_ : lv_has ls 3 [(1, .int x1), (2, .int x2)]) (_ : xX9_ones_h4 p0 n x1 x2 = some tg), W p l e (headSpec wsX9_ones rmX9_ones).room s m ([.int p0] : List Value).toArray below meth c s.heap [] 0 0 Q (F0 m 4 ls []) := by
    intro n
    induction n with
    | zero =>
      intro x1 x2 ls hl ht
      exact it_z ht
    | succ n4 ih4 =>
      intro x1 x2 ls hl ht
      have ht := (xX9_ones_h4_s p0 n4 x1 x2).symm.trans ht
      refine lv_iload_n hx hb dX9_ones_4 rfl (lv_at hl 1 rfl) ?_
      refine lv_if_eq (tgt := 20) hx hb dX9_ones_5 (by decide) (fun c1 => ?_) (fun c1 => ?_)
      · have ht := it_p c1 ht
        refine lv_iload_n hx hb dX9_ones_20 rfl (lv_at hl 0 rfl) ?_
        subst hQ
        have ht := Option.some.inj ht
        exact W.iret (v := x1) hx hb hr (fun t e1 hW => ⟨_, rfl, ⟨ht, trivial⟩, e1⟩) (fun q h => absurd h List.not_mem_nil) dX9_ones_21
      · have ht := it_n c1 ht
        refine lv_iinc (v := x1 + 1) (lv' := [(1, .int (x1 + 1)), (2, .int x2)]) hx hb dX9_ones_8 hl (k := 0) rfl rfl (by decide) rfl (fun ls hl => ?_)
        refine lv_iload_n hx hb dX9_ones_11 rfl (lv_at hl 1 rfl) ?_
        refine lv_iload_n hx hb dX9_ones_12 rfl (lv_at hl 1 rfl) ?_
        refine lv_iconst (v := 1) hx hb dX9_ones_13 (by decide) ?_
        refine lv_isub hx hb dX9_ones_14 ?_
        refine lv_iand hx hb dX9_ones_15 ?_
        refine lv_istore_n (lv' := [(2, .int (x2 &&& (x2 - 1))), (1, .int (x1 + 1))]) hx hb dX9_ones_16 rfl hl (by decide) rfl (fun ls hl => ?_)
        refine lv_goto (tgt := 4) hx hb dX9_ones_17 (by decide) ?_
        exact ih4 (x1 + 1) (x2 &&& (x2 - 1)) ls (lv_sub hl [1, 0] rfl) ht
  refine lv_iconst (v := 0) hx hb dX9_ones_0 (by decide) ?_
  refine lv_istore_n (lv' := [(1, .int 0), (0, .int p0)]) hx hb dX9_ones_1 rfl hl (by decide) rfl (fun ls hl => ?_)
  refine lv_iload_n hx hb dX9_ones_2 rfl (lv_at hl 1 rfl) ?_
  refine lv_istore_n (lv' := [(2, .int p0), (1, .int 0), (0, .int p0)]) hx hb dX9_ones_3 rfl hl (by decide) rfl (fun ls hl => ?_)
  exact L4 5000 0 p0 ls (lv_sub hl [1, 0] rfl) ht
abbrev rmX9_has : Room := { frames := 0, cells := 0, slots := 0, locals := 0 }
set_option maxHeartbeats 4000000 in
set_option maxRecDepth 100000 in
theorem kX9_has (l : Launch) (D : va_G) (cI cZ cO : ClassId) (p0 : Int32) (p1 : Int32) : Met l yX9_has wsX9_has rmX9_has (q_PR D cI cZ cO [.int p0, .int p1] ([] : va_W)) (vp_Si (fun x => x = xX9_has p0 p1 ∧ narrow .boolean (.int x) = .int x)) 0 0 (fun _ => False) := by
  refine Met.ofW (cc := cX9_has) (maxL := 2) (ret := (some .boolean)) (by decide) rfl ?_
  intro p e s m args below meth c s₁ B hml hv
  obtain ⟨rfl, hE, hP⟩ := hv
  have hx := B.exec
  have hb := B.bytes
  have hr := B.returns
  have hts := atoms_spec (ws := wsX9_has) B.pre
  have hown : s.vm.findClass RX9 = some m.cls := findClass_of_methodNamed B.named
  have hlocks := B.notSynchronized
  have hl := lv_entry ([.int p0, .int p1]) (n := 2) (Nat.le_of_ble_eq_true rfl)
  rw [lg_entry_eq]
  generalize (lg_sl ([.int p0, .int p1]) ++ List.replicate (2 - (lg_sl ([.int p0, .int p1])).length) Slot.unset).toArray = ls at hl ⊢
  have hl : lv_has ls 2 [(0, .int p0), (1, .int p1)] := hl
  have ht := xX9_has_s p0 p1
  obtain ⟨tg, htg⟩ : ∃ z, z = xX9_has p0 p1 := ⟨_, rfl⟩
  rw [← htg] at ht ⊢
  have ht := ht.symm
  refine lv_iload_n hx hb dX9_has_0 rfl (lv_at hl 0 rfl) ?_
  refine lv_iload_n hx hb dX9_has_1 rfl (lv_at hl 1 rfl) ?_
  refine q_ishr hx hb dX9_has_2 ?_
  refine lv_iconst (v := 1) hx hb dX9_has_3 (by decide) ?_
  refine lv_iand hx hb dX9_has_4 ?_
  refine lv_iconst (v := 1) hx hb dX9_has_5 (by decide) ?_
  refine lv_icmp_ne (tgt := 13) hx hb dX9_has_6 (by decide) (fun c1 => ?_) (fun c1 => ?_)
  · have ht := it_n c1 ht
    refine lv_iconst (v := 0) hx hb dX9_has_13 (by decide) ?_
    exact W.zret (v := 0) (ty := .boolean) hx hb hr (by decide +kernel) (fun t e1 hW => ⟨_, rfl, ⟨ht, (by decide +kernel)⟩, e1⟩) (fun q h => absurd h List.not_mem_nil) dX9_has_14
  · have ht := it_p c1 ht
    refine lv_iconst (v := 1) hx hb dX9_has_9 (by decide) ?_
    refine lv_goto (tgt := 14) hx hb dX9_has_10 (by decide) ?_
    exact W.zret (v := 1) (ty := .boolean) hx hb hr (by decide +kernel) (fun t e1 hW => ⟨_, rfl, ⟨ht, (by decide +kernel)⟩, e1⟩) (fun q h => absurd h List.not_mem_nil) dX9_has_14
abbrev rmX9_person : Room := { frames := 2, cells := 0, slots := 0, locals := 45 }
set_option maxHeartbeats 4000000 in
set_option maxRecDepth 100000 in
theorem kX9_person (l : Launch) (D : va_G) (cI cZ cO : ClassId) (d0 : Nat → Nat) (sz : Nat) (S0 : St) (p0 : Int32) (p1 : Int32) (p2 : Int32) (tg : Int32 × St) (ht : xX9_person p0 p1 p2 S0 = some tg) : Met l yX9_person wsX9_person rmX9_person (q_PM D cI cZ cO [.ref (d0 0), .int p0, .int p1, .int p2] sz (wg9 cI cZ d0 S0)) (va_Qi (fun x (_ : Unit) => x = tg.1 ∧ True) (fun _ t => va_P D vwCl (wg9 cI cZ d0 tg.2) t.heap) (va_A (wg9 cI cZ d0 S0) sz)) 0 0 (va_A (wg9 cI cZ d0 S0) sz) := by
  refine Met.ofW (cc := cX9_person) (maxL := 5) (ret := (some .int)) (by decide) rfl ?_
  intro p e s m args below meth c s₁ B hml hv
  obtain ⟨rfl, hsz, hE, hP, hD0⟩ := hv
  have hx := B.exec
  have hb := B.bytes
  have hr := B.returns
  have hts := atoms_spec (ws := wsX9_person) B.pre
  have hown : s.vm.findClass RX9 = some m.cls := findClass_of_methodNamed B.named
  have hlocks := B.notSynchronized
  have hi9 : ∀ w ∈ u_ws RX9 TX9 37, w ∈ wsX9_person := by decide +kernel
  have hw0 := hts (.constantLong RX9 95 (99)) (by decide +kernel)
  have hw1 := hts (.fieldLink RX9 7 "HailNamesModel" "counts" "[I") (by decide +kernel)
  have hw2 := hts (.fieldLink RX9 13 "HailNamesModel" "noted" "[I") (by decide +kernel)
  subst hsz
  have hD1 := hD0.self (sz := s.heap.size)
  generalize hAe : va_A (wg9 cI cZ d0 S0) s.heap.size = A at hD1 ⊢
  have hA : ∀ q : Nat, s.heap.size ≤ q → A q := fun q h => by rw [← hAe]; exact Or.inr h
  have hS : va_S A s.heap s.heap [] := va_S.rf
  have hD : ∀ (S0 : St), va_D A (wg9 cI cZ d0 S0) := fun S0 => q_D hD1 rfl
  have hl := lv_entry ([.ref (d0 0), .int p0, .int p1, .int p2]) (n := 5) (Nat.le_of_ble_eq_true rfl)
  rw [lg_entry_eq]
  generalize (lg_sl ([.ref (d0 0), .int p0, .int p1, .int p2]) ++ List.replicate (5 - (lg_sl ([.ref (d0 0), .int p0, .int p1, .int p2])).length) Slot.unset).toArray = ls at hl ⊢
  have hl : lv_has ls 5 [(0, .ref (d0 0)), (1, .int p0), (2, .int p1), (3, .int p2)] := hl
  have ht := (xX9_person_s p0 p1 p2 S0).symm.trans ht
  refine lv_iload_n hx hb dX9_person_0 rfl (lv_at hl 1 rfl) ?_
  refine q_ri (va_runS (As := [.int p0]) (rest := []) ⟨hx, hb, hml, hown, hts⟩ (kX9_isPerson l D cI cZ cO p0) (va_cwS 1 hts gX9_person_X9_isPerson rfl rfl rfl (by decide +kernel) ⟨Nat.le_of_ble_eq_true rfl, Nat.le_of_ble_eq_true rfl⟩) (q_rS hE q_nil) rfl rfl hl.1 rfl (lv_room (Nat.le_of_ble_eq_true rfl)) dX9_person_1 ⟨Nat.le_of_ble_eq_true rfl, Nat.le_of_ble_eq_true rfl⟩) (fun b1 => ?_)
  refine lv_if_ne (tgt := 9) hx hb dX9_person_4 (by decide) (fun c2 => ?_) (fun c2 => ?_)
  · have ht := it_n c2 ht
    refine lv_iload_n hx hb dX9_person_9 rfl (lv_at hl 2 rfl) ?_
    refine lv_i2l (v := p1.toInt64) hx hb dX9_person_10 rfl ?_
    refine lv_lconst (v := 0) hx hb dX9_person_11 (by decide) ?_
    refine lv_ldc2 hx hb hown hw0 dX9_person_12 ?_
    refine q_ri (va_runS (As := [.long p1.toInt64, .long 0, .long 99]) (rest := []) ⟨hx, hb, hml, hown, hts⟩ (kX9_in l D cI cZ cO p1.toInt64 0 99) (va_cwS 3 hts gX9_person_X9_in rfl rfl rfl (by decide +kernel) ⟨Nat.le_of_ble_eq_true rfl, Nat.le_of_ble_eq_true rfl⟩) (q_rS hE q_nil) rfl rfl hl.1 rfl (lv_room (Nat.le_of_ble_eq_true rfl)) dX9_person_15 ⟨Nat.le_of_ble_eq_true rfl, Nat.le_of_ble_eq_true rfl⟩) (fun b3 => ?_)
    refine lv_if_eq (tgt := 33) hx hb dX9_person_18 (by decide) (fun c4 => ?_) (fun c4 => ?_)
    · have ht := it_p c4 ht
      refine lv_bipush (v := (-2)) hx hb dX9_person_33 (by decide) ?_
      obtain rfl := Option.some.inj ht
      exact W.iret (v := (-2)) hx hb hr (fun t e1 hW => ⟨⟨_, (), rfl, ⟨rfl, trivial⟩, q_at e1 hP⟩, hS.F e1⟩) hS.2.2 dX9_person_35
    · have ht := it_n c4 ht
      refine lv_iload_n hx hb dX9_person_21 rfl (lv_at hl 3 rfl) ?_
      refine lv_i2l (v := p2.toInt64) hx hb dX9_person_22 rfl ?_
      refine lv_lconst (v := 0) hx hb dX9_person_23 (by decide) ?_
      refine lv_ldc2 hx hb hown hw0 dX9_person_24 ?_
      refine q_ri (va_runS (As := [.long p2.toInt64, .long 0, .long 99]) (rest := []) ⟨hx, hb, hml, hown, hts⟩ (kX9_in l D cI cZ cO p2.toInt64 0 99) (va_cwS 3 hts gX9_person_X9_in rfl rfl rfl (by decide +kernel) ⟨Nat.le_of_ble_eq_true rfl, Nat.le_of_ble_eq_true rfl⟩) (q_rS hE q_nil) rfl rfl hl.1 rfl (lv_room (Nat.le_of_ble_eq_true rfl)) dX9_person_27 ⟨Nat.le_of_ble_eq_true rfl, Nat.le_of_ble_eq_true rfl⟩) (fun b5 => ?_)
      refine lv_if_ne (tgt := 36) hx hb dX9_person_30 (by decide) (fun c6 => ?_) (fun c6 => ?_)
      · have ht := it_n c6 ht
        refine lv_bipush (v := 100) hx hb dX9_person_36 (by decide) ?_
        refine lv_aload_n hx hb dX9_person_38 rfl (lv_at hl 0 rfl) ?_
        refine va_get (D := D) (ci := 9) (v := .ref (d0 1)) (C := RX9) (T := TX9) (N := 37) hx hb hts hi9 hown hE.1 hP 0 rfl rfl 0 (by decide) hw1 (fun _ h9 => h9) rfl dX9_person_39 ?_
        refine lv_iload_n hx hb dX9_person_42 rfl (lv_at hl 1 rfl) ?_
        obtain ⟨g7, ht⟩ := it_g ht
        refine va_iald hx hb hE.1 hP 1 0 rfl rfl (q_in g7) dX9_person_43 ?_
        refine lv_imul hx hb dX9_person_44 ?_
        refine lv_aload_n hx hb dX9_person_45 rfl (lv_at hl 0 rfl) ?_
        refine va_get (D := D) (ci := 9) (v := .ref (d0 2)) (C := RX9) (T := TX9) (N := 37) hx hb hts hi9 hown hE.1 hP 0 rfl rfl 1 (by decide) hw2 (fun _ h9 => h9) rfl dX9_person_46 ?_
        refine lv_iload_n hx hb dX9_person_49 rfl (lv_at hl 1 rfl) ?_
        refine va_iald hx hb hE.1 hP 2 0 rfl rfl (q_in g7) dX9_person_50 ?_
        refine lv_iadd hx hb dX9_person_51 ?_
        refine lv_topi (fun y8 ey8 => ?_)
        have ht := it_l ht ey8
        refine lv_istore (lv' := [(4, .int y8), (0, .ref (d0 0)), (1, .int p0), (2, .int p1), (3, .int p2)]) hx hb dX9_person_52 hl (by decide) rfl (fun ls hl => ?_)
        refine lv_aload_n hx hb dX9_person_54 rfl (lv_at hl 1 rfl) ?_
        refine va_get (D := D) (ci := 9) (v := .ref (d0 1)) (C := RX9) (T := TX9) (N := 37) hx hb hts hi9 hown hE.1 hP 0 rfl rfl 0 (by decide) hw1 (fun _ h9 => h9) rfl dX9_person_55 ?_
        refine lv_iload_n hx hb dX9_person_58 rfl (lv_at hl 2 rfl) ?_
        refine lv_iload_n hx hb dX9_person_59 rfl (lv_at hl 3 rfl) ?_
        refine va_iast hx hb hE.1 hP (hD _) hS 1 0 rfl rfl (q_in g7) dX9_person_60 (fun H locs hP _ hS => ?_)
        have hP : va_P D vwCl (wg9 cI cZ d0 (q_su S0 0 p0.toNatClampNeg p1)) H := hP
        obtain ⟨T9, eT9⟩ : ∃ z : St, z = q_su S0 0 p0.toNatClampNeg p1 := ⟨_, rfl⟩
        rw [← eT9] at hP
        have ht := it_l ht eT9
        refine lv_aload_n hx hb dX9_person_61 rfl (lv_at hl 1 rfl) ?_
        refine va_get (D := D) (ci := 9) (v := .ref (d0 2)) (C := RX9) (T := TX9) (N := 37) hx hb hts hi9 hown hE.1 hP 0 rfl rfl 1 (by decide) hw2 (fun _ h9 => h9) rfl dX9_person_62 ?_
        refine lv_iload_n hx hb dX9_person_65 rfl (lv_at hl 2 rfl) ?_
        refine lv_iload_n hx hb dX9_person_66 rfl (lv_at hl 4 rfl) ?_
        refine va_iast hx hb hE.1 hP (hD _) hS 2 0 rfl rfl (q_in g7) dX9_person_67 (fun H locs hP _ hS => ?_)
        have hP : va_P D vwCl (wg9 cI cZ d0 (q_su T9 1 p0.toNatClampNeg p2)) H := hP
        obtain ⟨T10, eT10⟩ : ∃ z : St, z = q_su T9 1 p0.toNatClampNeg p2 := ⟨_, rfl⟩
        rw [← eT10] at hP
        have ht := it_l ht eT10
        refine lv_iload hx hb dX9_person_68 (lv_at hl 0 rfl) ?_
        obtain rfl := Option.some.inj ht
        exact W.iret (v := y8) hx hb hr (fun t e1 hW => ⟨⟨_, (), rfl, ⟨rfl, trivial⟩, q_at e1 hP⟩, hS.F e1⟩) hS.2.2 dX9_person_70
      · have ht := it_p c6 ht
        refine lv_bipush (v := (-2)) hx hb dX9_person_33 (by decide) ?_
        obtain rfl := Option.some.inj ht
        exact W.iret (v := (-2)) hx hb hr (fun t e1 hW => ⟨⟨_, (), rfl, ⟨rfl, trivial⟩, q_at e1 hP⟩, hS.F e1⟩) hS.2.2 dX9_person_35
  · have ht := it_p c2 ht
    refine lv_iconst (v := (-1)) hx hb dX9_person_7 (by decide) ?_
    obtain rfl := Option.some.inj ht
    exact W.iret (v := (-1)) hx hb hr (fun t e1 hW => ⟨⟨_, (), rfl, ⟨rfl, trivial⟩, q_at e1 hP⟩, hS.F e1⟩) hS.2.2 dX9_person_8
abbrev rmX9_layStone : Room := { frames := 0, cells := 0, slots := 0, locals := 0 }
set_option maxHeartbeats 4000000 in
set_option maxRecDepth 100000 in
theorem kX9_layStone (l : Launch) (D : va_G) (cI cZ cO : ClassId) (d0 : Nat → Nat) (sz : Nat) (S0 : St) (p0 : Int32) (p1 : Int32) (p2 : Int32) (p3 : Int32) (tg : St) (ht : xX9_layStone p0 p1 p2 p3 S0 = some tg) : Met l yX9_layStone wsX9_layStone rmX9_layStone (q_PM D cI cZ cO [.ref (d0 0), .int p0, .int p1, .int p2, .int p3] sz (wg9 cI cZ d0 S0)) (va_Qv (fun _ : Unit => True) (fun _ t => va_P D vwCl (wg9 cI cZ d0 tg) t.heap) (va_A (wg9 cI cZ d0 S0) sz)) 0 0 (va_A (wg9 cI cZ d0 S0) sz) := by
  refine Met.ofW (cc := cX9_layStone) (maxL := 5) (ret := none) (by decide) rfl ?_
  intro p e s m args below meth c s₁ B hml hv
  obtain ⟨rfl, hsz, hE, hP, hD0⟩ := hv
  have hx := B.exec
  have hb := B.bytes
  have hr := B.returns
  have hts := atoms_spec (ws := wsX9_layStone) B.pre
  have hown : s.vm.findClass RX9 = some m.cls := findClass_of_methodNamed B.named
  have hlocks := B.notSynchronized
  have hi9 : ∀ w ∈ u_ws RX9 TX9 37, w ∈ wsX9_layStone := by decide +kernel
  have hw0 := hts (.fieldLink RX9 16 "HailNamesModel" "lies" "[I") (by decide +kernel)
  have hw1 := hts (.fieldLink RX9 19 "HailNamesModel" "size" "[I") (by decide +kernel)
  have hw2 := hts (.fieldLink RX9 22 "HailNamesModel" "figure" "[I") (by decide +kernel)
  subst hsz
  have hD1 := hD0.self (sz := s.heap.size)
  generalize hAe : va_A (wg9 cI cZ d0 S0) s.heap.size = A at hD1 ⊢
  have hA : ∀ q : Nat, s.heap.size ≤ q → A q := fun q h => by rw [← hAe]; exact Or.inr h
  have hS : va_S A s.heap s.heap [] := va_S.rf
  have hD : ∀ (S0 : St), va_D A (wg9 cI cZ d0 S0) := fun S0 => q_D hD1 rfl
  have hl := lv_entry ([.ref (d0 0), .int p0, .int p1, .int p2, .int p3]) (n := 5) (Nat.le_of_ble_eq_true rfl)
  rw [lg_entry_eq]
  generalize (lg_sl ([.ref (d0 0), .int p0, .int p1, .int p2, .int p3]) ++ List.replicate (5 - (lg_sl ([.ref (d0 0), .int p0, .int p1, .int p2, .int p3])).length) Slot.unset).toArray = ls at hl ⊢
  have hl : lv_has ls 5 [(0, .ref (d0 0)), (1, .int p0), (2, .int p1), (3, .int p2), (4, .int p3)] := hl
  have ht := (xX9_layStone_s p0 p1 p2 p3 S0).symm.trans ht
  refine lv_aload_n hx hb dX9_layStone_0 rfl (lv_at hl 0 rfl) ?_
  refine va_get (D := D) (ci := 9) (v := .ref (d0 3)) (C := RX9) (T := TX9) (N := 37) hx hb hts hi9 hown hE.1 hP 0 rfl rfl 2 (by decide) hw0 (fun _ h9 => h9) rfl dX9_layStone_1 ?_
  refine lv_iload_n hx hb dX9_layStone_4 rfl (lv_at hl 1 rfl) ?_
  refine lv_iload_n hx hb dX9_layStone_5 rfl (lv_at hl 2 rfl) ?_
  obtain ⟨g1, ht⟩ := it_g ht
  refine va_iast hx hb hE.1 hP (hD _) hS 3 0 rfl rfl (q_in g1) dX9_layStone_6 (fun H locs hP _ hS => ?_)
  have hP : va_P D vwCl (wg9 cI cZ d0 (q_su S0 2 p0.toNatClampNeg p1)) H := hP
  obtain ⟨T2, eT2⟩ : ∃ z : St, z = q_su S0 2 p0.toNatClampNeg p1 := ⟨_, rfl⟩
  rw [← eT2] at hP
  have ht := it_l ht eT2
  refine lv_aload_n hx hb dX9_layStone_7 rfl (lv_at hl 0 rfl) ?_
  refine va_get (D := D) (ci := 9) (v := .ref (d0 4)) (C := RX9) (T := TX9) (N := 37) hx hb hts hi9 hown hE.1 hP 0 rfl rfl 3 (by decide) hw1 (fun _ h9 => h9) rfl dX9_layStone_8 ?_
  refine lv_iload_n hx hb dX9_layStone_11 rfl (lv_at hl 1 rfl) ?_
  refine lv_iload_n hx hb dX9_layStone_12 rfl (lv_at hl 3 rfl) ?_
  refine va_iast hx hb hE.1 hP (hD _) hS 4 0 rfl rfl (q_in g1) dX9_layStone_13 (fun H locs hP _ hS => ?_)
  have hP : va_P D vwCl (wg9 cI cZ d0 (q_su T2 3 p0.toNatClampNeg p2)) H := hP
  obtain ⟨T3, eT3⟩ : ∃ z : St, z = q_su T2 3 p0.toNatClampNeg p2 := ⟨_, rfl⟩
  rw [← eT3] at hP
  have ht := it_l ht eT3
  refine lv_aload_n hx hb dX9_layStone_14 rfl (lv_at hl 0 rfl) ?_
  refine va_get (D := D) (ci := 9) (v := .ref (d0 5)) (C := RX9) (T := TX9) (N := 37) hx hb hts hi9 hown hE.1 hP 0 rfl rfl 4 (by decide) hw2 (fun _ h9 => h9) rfl dX9_layStone_15 ?_
  refine lv_iload_n hx hb dX9_layStone_18 rfl (lv_at hl 1 rfl) ?_
  refine lv_iload hx hb dX9_layStone_19 (lv_at hl 4 rfl) ?_
  refine va_iast hx hb hE.1 hP (hD _) hS 5 0 rfl rfl (q_in g1) dX9_layStone_21 (fun H locs hP _ hS => ?_)
  have hP : va_P D vwCl (wg9 cI cZ d0 (q_su T3 4 p0.toNatClampNeg p3)) H := hP
  obtain ⟨T4, eT4⟩ : ∃ z : St, z = q_su T3 4 p0.toNatClampNeg p3 := ⟨_, rfl⟩
  rw [← eT4] at hP
  have ht := it_l ht eT4
  obtain rfl := Option.some.inj ht
  exact W.vret hx hb hr (fun t e1 hW => ⟨⟨(), rfl, trivial, q_at e1 hP⟩, hS.F e1⟩) hS.2.2 dX9_layStone_22
abbrev rmX9_stone : Room := { frames := 2, cells := 0, slots := 0, locals := 45 }
set_option maxHeartbeats 4000000 in
set_option maxRecDepth 100000 in
theorem kX9_stone (l : Launch) (D : va_G) (cI cZ cO : ClassId) (d0 : Nat → Nat) (sz : Nat) (S0 : St) (p0 : Int32) (p1 : Int32) (p2 : Int32) (p3 : Int32) (tg : Int32 × St) (ht : xX9_stone p0 p1 p2 p3 S0 = some tg) : Met l yX9_stone wsX9_stone rmX9_stone (q_PM D cI cZ cO [.ref (d0 0), .int p0, .int p1, .int p2, .int p3] sz (wg9 cI cZ d0 S0)) (va_Qi (fun x (_ : Unit) => x = tg.1 ∧ True) (fun _ t => va_P D vwCl (wg9 cI cZ d0 tg.2) t.heap) (va_A (wg9 cI cZ d0 S0) sz)) 0 0 (va_A (wg9 cI cZ d0 S0) sz) := by
  refine Met.ofW (cc := cX9_stone) (maxL := 8) (ret := (some .int)) (by decide) rfl ?_
  intro p e s m args below meth c s₁ B hml hv
  obtain ⟨rfl, hsz, hE, hP, hD0⟩ := hv
  have hx := B.exec
  have hb := B.bytes
  have hr := B.returns
  have hts := atoms_spec (ws := wsX9_stone) B.pre
  have hown : s.vm.findClass RX9 = some m.cls := findClass_of_methodNamed B.named
  have hlocks := B.notSynchronized
  have hi9 : ∀ w ∈ u_ws RX9 TX9 37, w ∈ wsX9_stone := by decide +kernel
  have hw0 := hts (.constantLong RX9 97 (-1)) (by decide +kernel)
  have hw1 := hts (.constantLong RX9 89 (11)) (by decide +kernel)
  have hw2 := hts (.fieldLink RX9 16 "HailNamesModel" "lies" "[I") (by decide +kernel)
  subst hsz
  have hD1 := hD0.self (sz := s.heap.size)
  generalize hAe : va_A (wg9 cI cZ d0 S0) s.heap.size = A at hD1 ⊢
  have hA : ∀ q : Nat, s.heap.size ≤ q → A q := fun q h => by rw [← hAe]; exact Or.inr h
  have hS : va_S A s.heap s.heap [] := va_S.rf
  have hD : ∀ (S0 : St), va_D A (wg9 cI cZ d0 S0) := fun S0 => q_D hD1 rfl
  have hl := lv_entry ([.ref (d0 0), .int p0, .int p1, .int p2, .int p3]) (n := 8) (Nat.le_of_ble_eq_true rfl)
  rw [lg_entry_eq]
  generalize (lg_sl ([.ref (d0 0), .int p0, .int p1, .int p2, .int p3]) ++ List.replicate (8 - (lg_sl ([.ref (d0 0), .int p0, .int p1, .int p2, .int p3])).length) Slot.unset).toArray = ls at hl ⊢
  have hl : lv_has ls 8 [(0, .ref (d0 0)), (1, .int p0), (2, .int p1), (3, .int p2), (4, .int p3)] := hl
  have ht := (xX9_stone_s p0 p1 p2 p3 S0).symm.trans ht
  obtain ⟨Q, hQ⟩ : ∃ Q, Q = MQ below (va_Qi (fun x (_ : Unit) => x = tg.1 ∧ True) (fun _ t => va_P D vwCl (wg9 cI cZ d0 tg.2) t.heap) A) ([.ref (d0 0), .int p0, .int p1, .int p2, .int p3] : List Value).toArray s 0 0 A := ⟨_, rfl⟩
  rw [← hQ]
  have J18 : ∀ (z0 : Int32) (S0 : St) (H : Heap) (locs : List Loc) (_ : va_P D vwCl (wg9 cI cZ d0 S0) H) (_ : va_S A s.heap H locs) (ls : Array Slot) (_ : lv_has ls 8 [(0, .ref (d0 0)), (1, .int p0), (2, .int p1), (3, .int p2), (4, .int p3)]) (_ : xX9_stone_h18 p0 p1 p2 p3 z0 S0 = some tg), W p l e (headSpec wsX9_stone rmX9_stone).room s m ([.ref (d0 0), .int p0, .int p1, .int p2, .int p3] : List Value).toArray below meth c H locs 0 0 Q (F0 m 18 ls [.int z0]) := by
    intro z0 S0 H locs hP hS ls hl ht
    have ht := (xX9_stone_h18_s p0 p1 p2 p3 z0 S0).symm.trans ht
    have J30 : ∀ (x5 : Int32) (z0 : Int32) (S0 : St) (H : Heap) (locs : List Loc) (_ : va_P D vwCl (wg9 cI cZ d0 S0) H) (_ : va_S A s.heap H locs) (ls : Array Slot) (_ : lv_has ls 8 [(0, .ref (d0 0)), (1, .int p0), (2, .int p1), (3, .int p2), (4, .int p3), (5, .int x5)]) (_ : xX9_stone_h30 p0 p1 p2 p3 x5 z0 S0 = some tg), W p l e (headSpec wsX9_stone rmX9_stone).room s m ([.ref (d0 0), .int p0, .int p1, .int p2, .int p3] : List Value).toArray below meth c H locs 0 0 Q (F0 m 30 ls [.int z0]) := by
      intro x5 z0 S0 H locs hP hS ls hl ht
      have ht := (xX9_stone_h30_s p0 p1 p2 p3 x5 z0 S0).symm.trans ht
      have J98 : ∀ (x7 : Int32) (z1 : Int32) (z2 : Int32) (S0 : St) (H : Heap) (locs : List Loc) (_ : va_P D vwCl (wg9 cI cZ d0 S0) H) (_ : va_S A s.heap H locs) (ls : Array Slot) (_ : lv_has ls 8 [(3, .int p2), (4, .int p3), (7, .int x7)]) (_ : xX9_stone_h98 p0 p1 p2 p3 x7 z1 z2 S0 = some tg), W p l e (headSpec wsX9_stone rmX9_stone).room s m ([.ref (d0 0), .int p0, .int p1, .int p2, .int p3] : List Value).toArray below meth c H locs 0 0 Q (F0 m 98 ls [.int z2, .int z1, .ref (d0 0)]) := by
        intro x7 z1 z2 S0 H locs hP hS ls hl ht
        have ht := (xX9_stone_h98_s p0 p1 p2 p3 x7 z1 z2 S0).symm.trans ht
        refine lv_iload_n hx hb dX9_stone_98 rfl (lv_at hl 0 rfl) ?_
        refine lv_iload hx hb dX9_stone_99 (lv_at hl 1 rfl) ?_
        obtain ⟨q13, hq13, ht⟩ := it_b ht
        have hFc := q_freeW (hD S0) hS hA
        refine q_mv (va_runV (As := [.int z1, .int z2, .int p2, .int p3]) (rest := []) ⟨hx, hb, hml, hown, hts⟩ (kX9_layStone l D cI cZ cO d0 H.size S0 z1 z2 p2 p3 q13 hq13) (cwV 4 hts gX9_stone_X9_layStone rfl rfl rfl (by decide +kernel) ⟨Nat.le_of_ble_eq_true rfl, Nat.le_of_ble_eq_true rfl⟩) (q_mV (As := [.int z1, .int z2, .int p2, .int p3]) hE hP (hD S0) (q0 := 0) (ci := 9) rfl rfl) rfl rfl hl.1 rfl (lv_room (Nat.le_of_ble_eq_true rfl)) dX9_stone_101 ⟨Nat.le_of_ble_eq_true rfl, Nat.le_of_ble_eq_true rfl⟩) hS hFc (fun H locs hP1 hk hS => ?_)
        have hP : va_P D vwCl (wg9 cI cZ d0 q13) H := hP1
        refine lv_iload hx hb dX9_stone_104 (lv_at hl 2 rfl) ?_
        subst hQ
        obtain rfl := Option.some.inj ht
        exact W.iret (v := x7) hx hb hr (fun t e1 hW => ⟨⟨_, (), rfl, ⟨rfl, trivial⟩, q_at e1 hP⟩, hS.F e1⟩) hS.2.2 dX9_stone_106
      refine lv_istore (lv' := [(6, .int z0), (0, .ref (d0 0)), (1, .int p0), (2, .int p1), (3, .int p2), (4, .int p3), (5, .int x5)]) hx hb dX9_stone_30 hl (by decide) rfl (fun ls hl => ?_)
      refine lv_iload_n hx hb dX9_stone_32 rfl (lv_at hl 3 rfl) ?_
      refine lv_i2l (v := p1.toInt64) hx hb dX9_stone_33 rfl ?_
      refine lv_ldc2 hx hb hown hw0 dX9_stone_34 ?_
      refine lv_ldc2 hx hb hown hw1 dX9_stone_37 ?_
      refine q_ri (va_runS (As := [.long p1.toInt64, .long (-1), .long 11]) (rest := []) ⟨hx, hb, hml, hown, hts⟩ (kX9_in l D cI cZ cO p1.toInt64 (-1) 11) (va_cwS 3 hts gX9_stone_X9_in rfl rfl rfl (by decide +kernel) ⟨Nat.le_of_ble_eq_true rfl, Nat.le_of_ble_eq_true rfl⟩) (q_rS hE q_nil) rfl rfl hl.1 rfl (lv_room (Nat.le_of_ble_eq_true rfl)) dX9_stone_40 ⟨Nat.le_of_ble_eq_true rfl, Nat.le_of_ble_eq_true rfl⟩) (fun b5 => ?_)
      refine lv_if_eq (tgt := 75) hx hb dX9_stone_43 (by decide) (fun c6 => ?_) (fun c6 => ?_)
      · have ht := it_p c6 ht
        refine lv_bipush (v := (-2)) hx hb dX9_stone_75 (by decide) ?_
        subst hQ
        obtain rfl := Option.some.inj ht
        exact W.iret (v := (-2)) hx hb hr (fun t e1 hW => ⟨⟨_, (), rfl, ⟨rfl, trivial⟩, q_at e1 hP⟩, hS.F e1⟩) hS.2.2 dX9_stone_77
      · have ht := it_n c6 ht
        refine lv_iload_n hx hb dX9_stone_46 rfl (lv_at hl 4 rfl) ?_
        refine lv_i2l (v := p2.toInt64) hx hb dX9_stone_47 rfl ?_
        refine lv_iload hx hb dX9_stone_48 (lv_at hl 6 rfl) ?_
        refine lv_i2l (v := x5.toInt64) hx hb dX9_stone_50 rfl ?_
        refine lv_iload hx hb dX9_stone_51 (lv_at hl 0 rfl) ?_
        refine lv_i2l (v := z0.toInt64) hx hb dX9_stone_53 rfl ?_
        refine q_ri (va_runS (As := [.long p2.toInt64, .long x5.toInt64, .long z0.toInt64]) (rest := []) ⟨hx, hb, hml, hown, hts⟩ (kX9_in l D cI cZ cO p2.toInt64 x5.toInt64 z0.toInt64) (va_cwS 3 hts gX9_stone_X9_in rfl rfl rfl (by decide +kernel) ⟨Nat.le_of_ble_eq_true rfl, Nat.le_of_ble_eq_true rfl⟩) (q_rS hE q_nil) rfl rfl hl.1 rfl (lv_room (Nat.le_of_ble_eq_true rfl)) dX9_stone_54 ⟨Nat.le_of_ble_eq_true rfl, Nat.le_of_ble_eq_true rfl⟩) (fun b7 => ?_)
        refine lv_if_eq (tgt := 75) hx hb dX9_stone_57 (by decide) (fun c8 => ?_) (fun c8 => ?_)
        · have ht := it_p c8 ht
          refine lv_bipush (v := (-2)) hx hb dX9_stone_75 (by decide) ?_
          subst hQ
          obtain rfl := Option.some.inj ht
          exact W.iret (v := (-2)) hx hb hr (fun t e1 hW => ⟨⟨_, (), rfl, ⟨rfl, trivial⟩, q_at e1 hP⟩, hS.F e1⟩) hS.2.2 dX9_stone_77
        · have ht := it_n c8 ht
          refine lv_iload hx hb dX9_stone_60 (lv_at hl 5 rfl) ?_
          refine lv_i2l (v := p3.toInt64) hx hb dX9_stone_62 rfl ?_
          refine lv_iload hx hb dX9_stone_63 (lv_at hl 6 rfl) ?_
          refine lv_i2l (v := x5.toInt64) hx hb dX9_stone_65 rfl ?_
          refine lv_iload hx hb dX9_stone_66 (lv_at hl 0 rfl) ?_
          refine lv_i2l (v := z0.toInt64) hx hb dX9_stone_68 rfl ?_
          refine q_ri (va_runS (As := [.long p3.toInt64, .long x5.toInt64, .long z0.toInt64]) (rest := []) ⟨hx, hb, hml, hown, hts⟩ (kX9_in l D cI cZ cO p3.toInt64 x5.toInt64 z0.toInt64) (va_cwS 3 hts gX9_stone_X9_in rfl rfl rfl (by decide +kernel) ⟨Nat.le_of_ble_eq_true rfl, Nat.le_of_ble_eq_true rfl⟩) (q_rS hE q_nil) rfl rfl hl.1 rfl (lv_room (Nat.le_of_ble_eq_true rfl)) dX9_stone_69 ⟨Nat.le_of_ble_eq_true rfl, Nat.le_of_ble_eq_true rfl⟩) (fun b9 => ?_)
          refine lv_if_ne (tgt := 78) hx hb dX9_stone_72 (by decide) (fun c10 => ?_) (fun c10 => ?_)
          · have ht := it_n c10 ht
            refine lv_aload_n hx hb dX9_stone_78 rfl (lv_at hl 1 rfl) ?_
            refine va_get (D := D) (ci := 9) (v := .ref (d0 3)) (C := RX9) (T := TX9) (N := 37) hx hb hts hi9 hown hE.1 hP 0 rfl rfl 2 (by decide) hw2 (fun _ h9 => h9) rfl dX9_stone_79 ?_
            refine lv_iload_n hx hb dX9_stone_82 rfl (lv_at hl 2 rfl) ?_
            obtain ⟨g11, ht⟩ := it_g ht
            refine va_iald hx hb hE.1 hP 3 0 rfl rfl (q_in g11) dX9_stone_83 ?_
            refine lv_istore (lv' := [(7, .int (S0 2 p0.toNatClampNeg)), (6, .int z0), (0, .ref (d0 0)), (1, .int p0), (2, .int p1), (3, .int p2), (4, .int p3), (5, .int x5)]) hx hb dX9_stone_84 hl (by decide) rfl (fun ls hl => ?_)
            refine lv_aload_n hx hb dX9_stone_86 rfl (lv_at hl 2 rfl) ?_
            refine lv_iload_n hx hb dX9_stone_87 rfl (lv_at hl 3 rfl) ?_
            refine lv_iload_n hx hb dX9_stone_88 rfl (lv_at hl 4 rfl) ?_
            refine lv_if_ge (tgt := 97) hx hb dX9_stone_89 (by decide) (fun c12 => ?_) (fun c12 => ?_)
            · have ht := it_p c12 ht
              refine lv_iload_n hx hb dX9_stone_97 rfl (lv_at hl 4 rfl) ?_
              exact J98 (S0 2 p0.toNatClampNeg) p0 p1 S0 _ _ hP hS ls (lv_sub hl [5, 6, 0] rfl) ht
            · have ht := it_n c12 ht
              refine lv_bipush (v := (-6)) hx hb dX9_stone_92 (by decide) ?_
              refine lv_goto (tgt := 98) hx hb dX9_stone_94 (by decide) ?_
              exact J98 (S0 2 p0.toNatClampNeg) p0 (-6) S0 _ _ hP hS ls (lv_sub hl [5, 6, 0] rfl) ht
          · have ht := it_p c10 ht
            refine lv_bipush (v := (-2)) hx hb dX9_stone_75 (by decide) ?_
            subst hQ
            obtain rfl := Option.some.inj ht
            exact W.iret (v := (-2)) hx hb hr (fun t e1 hW => ⟨⟨_, (), rfl, ⟨rfl, trivial⟩, q_at e1 hP⟩, hS.F e1⟩) hS.2.2 dX9_stone_77
    refine lv_istore (lv' := [(5, .int z0), (0, .ref (d0 0)), (1, .int p0), (2, .int p1), (3, .int p2), (4, .int p3)]) hx hb dX9_stone_18 hl (by decide) rfl (fun ls hl => ?_)
    refine lv_iload_n hx hb dX9_stone_20 rfl (lv_at hl 3 rfl) ?_
    refine lv_if_ge (tgt := 28) hx hb dX9_stone_21 (by decide) (fun c4 => ?_) (fun c4 => ?_)
    · have ht := it_p c4 ht
      refine lv_bipush (v := 99) hx hb dX9_stone_28 (by decide) ?_
      exact J30 z0 99 S0 _ _ hP hS ls (lv_sub hl [1, 2, 3, 4, 5, 0] rfl) ht
    · have ht := it_n c4 ht
      refine lv_iconst (v := 0) hx hb dX9_stone_24 (by decide) ?_
      refine lv_goto (tgt := 30) hx hb dX9_stone_25 (by decide) ?_
      exact J30 z0 0 S0 _ _ hP hS ls (lv_sub hl [1, 2, 3, 4, 5, 0] rfl) ht
  refine lv_iload_n hx hb dX9_stone_0 rfl (lv_at hl 1 rfl) ?_
  refine q_ri (va_runS (As := [.int p0]) (rest := []) ⟨hx, hb, hml, hown, hts⟩ (kX9_isPerson l D cI cZ cO p0) (va_cwS 1 hts gX9_stone_X9_isPerson rfl rfl rfl (by decide +kernel) ⟨Nat.le_of_ble_eq_true rfl, Nat.le_of_ble_eq_true rfl⟩) (q_rS hE q_nil) rfl rfl hl.1 rfl (lv_room (Nat.le_of_ble_eq_true rfl)) dX9_stone_1 ⟨Nat.le_of_ble_eq_true rfl, Nat.le_of_ble_eq_true rfl⟩) (fun b1 => ?_)
  refine lv_if_ne (tgt := 9) hx hb dX9_stone_4 (by decide) (fun c2 => ?_) (fun c2 => ?_)
  · have ht := it_n c2 ht
    refine lv_iload_n hx hb dX9_stone_9 rfl (lv_at hl 2 rfl) ?_
    refine lv_if_ge (tgt := 17) hx hb dX9_stone_10 (by decide) (fun c3 => ?_) (fun c3 => ?_)
    · have ht := it_p c3 ht
      refine lv_iconst (v := 1) hx hb dX9_stone_17 (by decide) ?_
      exact J18 1 S0 _ _ hP hS ls (lv_sub hl [0, 1, 2, 3, 4] rfl) ht
    · have ht := it_n c3 ht
      refine lv_iconst (v := 0) hx hb dX9_stone_13 (by decide) ?_
      refine lv_goto (tgt := 18) hx hb dX9_stone_14 (by decide) ?_
      exact J18 0 S0 _ _ hP hS ls (lv_sub hl [0, 1, 2, 3, 4] rfl) ht
  · have ht := it_p c2 ht
    refine lv_iconst (v := (-1)) hx hb dX9_stone_7 (by decide) ?_
    subst hQ
    obtain rfl := Option.some.inj ht
    exact W.iret (v := (-1)) hx hb hr (fun t e1 hW => ⟨⟨_, (), rfl, ⟨rfl, trivial⟩, q_at e1 hP⟩, hS.F e1⟩) hS.2.2 dX9_stone_8
abbrev rmX9_reader : Room := { frames := 2, cells := 0, slots := 0, locals := 45 }
set_option maxHeartbeats 4000000 in
set_option maxRecDepth 100000 in
theorem kX9_reader (l : Launch) (D : va_G) (cI cZ cO : ClassId) (d0 : Nat → Nat) (sz : Nat) (S0 : St) (p0 : Int32) (p1 : Int32) (p2 : Int32) (tg : Int32 × St) (ht : xX9_reader p0 p1 p2 S0 = some tg) : Met l yX9_reader wsX9_reader rmX9_reader (q_PM D cI cZ cO [.ref (d0 0), .int p0, .int p1, .int p2] sz (wg9 cI cZ d0 S0)) (va_Qi (fun x (_ : Unit) => x = tg.1 ∧ True) (fun _ t => va_P D vwCl (wg9 cI cZ d0 tg.2) t.heap) (va_A (wg9 cI cZ d0 S0) sz)) 0 0 (va_A (wg9 cI cZ d0 S0) sz) := by
  refine Met.ofW (cc := cX9_reader) (maxL := 5) (ret := (some .int)) (by decide) rfl ?_
  intro p e s m args below meth c s₁ B hml hv
  obtain ⟨rfl, hsz, hE, hP, hD0⟩ := hv
  have hx := B.exec
  have hb := B.bytes
  have hr := B.returns
  have hts := atoms_spec (ws := wsX9_reader) B.pre
  have hown : s.vm.findClass RX9 = some m.cls := findClass_of_methodNamed B.named
  have hlocks := B.notSynchronized
  have hi9 : ∀ w ∈ u_ws RX9 TX9 37, w ∈ wsX9_reader := by decide +kernel
  have hw0 := hts (.constantLong RX9 109 (9)) (by decide +kernel)
  have hw1 := hts (.fieldLink RX9 25 "HailNamesModel" "stands" "[I") (by decide +kernel)
  have hw2 := hts (.fieldLink RX9 28 "HailNamesModel" "stun" "[I") (by decide +kernel)
  have hw3 := hts (.fieldLink RX9 34 "HailNamesModel" "did" "[I") (by decide +kernel)
  subst hsz
  have hD1 := hD0.self (sz := s.heap.size)
  generalize hAe : va_A (wg9 cI cZ d0 S0) s.heap.size = A at hD1 ⊢
  have hA : ∀ q : Nat, s.heap.size ≤ q → A q := fun q h => by rw [← hAe]; exact Or.inr h
  have hS : va_S A s.heap s.heap [] := va_S.rf
  have hD : ∀ (S0 : St), va_D A (wg9 cI cZ d0 S0) := fun S0 => q_D hD1 rfl
  have hl := lv_entry ([.ref (d0 0), .int p0, .int p1, .int p2]) (n := 5) (Nat.le_of_ble_eq_true rfl)
  rw [lg_entry_eq]
  generalize (lg_sl ([.ref (d0 0), .int p0, .int p1, .int p2]) ++ List.replicate (5 - (lg_sl ([.ref (d0 0), .int p0, .int p1, .int p2])).length) Slot.unset).toArray = ls at hl ⊢
  have hl : lv_has ls 5 [(0, .ref (d0 0)), (1, .int p0), (2, .int p1), (3, .int p2)] := hl
  have ht := (xX9_reader_s p0 p1 p2 S0).symm.trans ht
  refine lv_iload_n hx hb dX9_reader_0 rfl (lv_at hl 1 rfl) ?_
  refine q_ri (va_runS (As := [.int p0]) (rest := []) ⟨hx, hb, hml, hown, hts⟩ (kX9_isReader l D cI cZ cO p0) (va_cwS 1 hts gX9_reader_X9_isReader rfl rfl rfl (by decide +kernel) ⟨Nat.le_of_ble_eq_true rfl, Nat.le_of_ble_eq_true rfl⟩) (q_rS hE q_nil) rfl rfl hl.1 rfl (lv_room (Nat.le_of_ble_eq_true rfl)) dX9_reader_1 ⟨Nat.le_of_ble_eq_true rfl, Nat.le_of_ble_eq_true rfl⟩) (fun b1 => ?_)
  refine lv_if_ne (tgt := 9) hx hb dX9_reader_4 (by decide) (fun c2 => ?_) (fun c2 => ?_)
  · have ht := it_n c2 ht
    refine lv_iload_n hx hb dX9_reader_9 rfl (lv_at hl 2 rfl) ?_
    refine q_ri (va_runS (As := [.int p1]) (rest := []) ⟨hx, hb, hml, hown, hts⟩ (kX9_isCell l D cI cZ cO p1) (va_cwS 1 hts gX9_reader_X9_isCell rfl rfl rfl (by decide +kernel) ⟨Nat.le_of_ble_eq_true rfl, Nat.le_of_ble_eq_true rfl⟩) (q_rS hE q_nil) rfl rfl hl.1 rfl (lv_room (Nat.le_of_ble_eq_true rfl)) dX9_reader_10 ⟨Nat.le_of_ble_eq_true rfl, Nat.le_of_ble_eq_true rfl⟩) (fun b3 => ?_)
    refine lv_if_eq (tgt := 28) hx hb dX9_reader_13 (by decide) (fun c4 => ?_) (fun c4 => ?_)
    · have ht := it_p c4 ht
      refine lv_bipush (v := (-2)) hx hb dX9_reader_28 (by decide) ?_
      obtain rfl := Option.some.inj ht
      exact W.iret (v := (-2)) hx hb hr (fun t e1 hW => ⟨⟨_, (), rfl, ⟨rfl, trivial⟩, q_at e1 hP⟩, hS.F e1⟩) hS.2.2 dX9_reader_30
    · have ht := it_n c4 ht
      refine lv_iload_n hx hb dX9_reader_16 rfl (lv_at hl 3 rfl) ?_
      refine lv_i2l (v := p2.toInt64) hx hb dX9_reader_17 rfl ?_
      refine lv_lconst (v := 0) hx hb dX9_reader_18 (by decide) ?_
      refine lv_ldc2 hx hb hown hw0 dX9_reader_19 ?_
      refine q_ri (va_runS (As := [.long p2.toInt64, .long 0, .long 9]) (rest := []) ⟨hx, hb, hml, hown, hts⟩ (kX9_in l D cI cZ cO p2.toInt64 0 9) (va_cwS 3 hts gX9_reader_X9_in rfl rfl rfl (by decide +kernel) ⟨Nat.le_of_ble_eq_true rfl, Nat.le_of_ble_eq_true rfl⟩) (q_rS hE q_nil) rfl rfl hl.1 rfl (lv_room (Nat.le_of_ble_eq_true rfl)) dX9_reader_22 ⟨Nat.le_of_ble_eq_true rfl, Nat.le_of_ble_eq_true rfl⟩) (fun b5 => ?_)
      refine lv_if_ne (tgt := 31) hx hb dX9_reader_25 (by decide) (fun c6 => ?_) (fun c6 => ?_)
      · have ht := it_n c6 ht
        refine lv_aload_n hx hb dX9_reader_31 rfl (lv_at hl 0 rfl) ?_
        refine va_get (D := D) (ci := 9) (v := .ref (d0 6)) (C := RX9) (T := TX9) (N := 37) hx hb hts hi9 hown hE.1 hP 0 rfl rfl 5 (by decide) hw1 (fun _ h9 => h9) rfl dX9_reader_32 ?_
        refine lv_iload_n hx hb dX9_reader_35 rfl (lv_at hl 1 rfl) ?_
        obtain ⟨g7, ht⟩ := it_g ht
        refine va_iald hx hb hE.1 hP 6 0 rfl rfl (q_in g7) dX9_reader_36 ?_
        refine lv_istore (lv' := [(4, .int (S0 5 p0.toNatClampNeg)), (0, .ref (d0 0)), (1, .int p0), (2, .int p1), (3, .int p2)]) hx hb dX9_reader_37 hl (by decide) rfl (fun ls hl => ?_)
        refine lv_aload_n hx hb dX9_reader_39 rfl (lv_at hl 1 rfl) ?_
        refine va_get (D := D) (ci := 9) (v := .ref (d0 6)) (C := RX9) (T := TX9) (N := 37) hx hb hts hi9 hown hE.1 hP 0 rfl rfl 5 (by decide) hw1 (fun _ h9 => h9) rfl dX9_reader_40 ?_
        refine lv_iload_n hx hb dX9_reader_43 rfl (lv_at hl 2 rfl) ?_
        refine lv_iload_n hx hb dX9_reader_44 rfl (lv_at hl 3 rfl) ?_
        refine va_iast hx hb hE.1 hP (hD _) hS 6 0 rfl rfl (q_in g7) dX9_reader_45 (fun H locs hP _ hS => ?_)
        have hP : va_P D vwCl (wg9 cI cZ d0 (q_su S0 5 p0.toNatClampNeg p1)) H := hP
        obtain ⟨T8, eT8⟩ : ∃ z : St, z = q_su S0 5 p0.toNatClampNeg p1 := ⟨_, rfl⟩
        rw [← eT8] at hP
        have ht := it_l ht eT8
        refine lv_aload_n hx hb dX9_reader_46 rfl (lv_at hl 1 rfl) ?_
        refine va_get (D := D) (ci := 9) (v := .ref (d0 7)) (C := RX9) (T := TX9) (N := 37) hx hb hts hi9 hown hE.1 hP 0 rfl rfl 6 (by decide) hw2 (fun _ h9 => h9) rfl dX9_reader_47 ?_
        refine lv_iload_n hx hb dX9_reader_50 rfl (lv_at hl 2 rfl) ?_
        refine lv_iload_n hx hb dX9_reader_51 rfl (lv_at hl 4 rfl) ?_
        refine va_iast hx hb hE.1 hP (hD _) hS 7 0 rfl rfl (q_in g7) dX9_reader_52 (fun H locs hP _ hS => ?_)
        have hP : va_P D vwCl (wg9 cI cZ d0 (q_su T8 6 p0.toNatClampNeg p2)) H := hP
        obtain ⟨T9, eT9⟩ : ∃ z : St, z = q_su T8 6 p0.toNatClampNeg p2 := ⟨_, rfl⟩
        rw [← eT9] at hP
        have ht := it_l ht eT9
        refine lv_aload_n hx hb dX9_reader_53 rfl (lv_at hl 1 rfl) ?_
        refine va_get (D := D) (ci := 9) (v := .ref (d0 9)) (C := RX9) (T := TX9) (N := 37) hx hb hts hi9 hown hE.1 hP 0 rfl rfl 8 (by decide) hw3 (fun _ h9 => h9) rfl dX9_reader_54 ?_
        refine lv_iload_n hx hb dX9_reader_57 rfl (lv_at hl 2 rfl) ?_
        refine lv_iconst (v := 0) hx hb dX9_reader_58 (by decide) ?_
        refine va_iast hx hb hE.1 hP (hD _) hS 9 0 rfl rfl (q_in g7) dX9_reader_59 (fun H locs hP _ hS => ?_)
        have hP : va_P D vwCl (wg9 cI cZ d0 (q_su T9 8 p0.toNatClampNeg 0)) H := hP
        obtain ⟨T10, eT10⟩ : ∃ z : St, z = q_su T9 8 p0.toNatClampNeg 0 := ⟨_, rfl⟩
        rw [← eT10] at hP
        have ht := it_l ht eT10
        refine lv_iload hx hb dX9_reader_60 (lv_at hl 0 rfl) ?_
        obtain rfl := Option.some.inj ht
        exact W.iret (v := S0 5 p0.toNatClampNeg) hx hb hr (fun t e1 hW => ⟨⟨_, (), rfl, ⟨rfl, trivial⟩, q_at e1 hP⟩, hS.F e1⟩) hS.2.2 dX9_reader_62
      · have ht := it_p c6 ht
        refine lv_bipush (v := (-2)) hx hb dX9_reader_28 (by decide) ?_
        obtain rfl := Option.some.inj ht
        exact W.iret (v := (-2)) hx hb hr (fun t e1 hW => ⟨⟨_, (), rfl, ⟨rfl, trivial⟩, q_at e1 hP⟩, hS.F e1⟩) hS.2.2 dX9_reader_30
  · have ht := it_p c2 ht
    refine lv_iconst (v := (-1)) hx hb dX9_reader_7 (by decide) ?_
    obtain rfl := Option.some.inj ht
    exact W.iret (v := (-1)) hx hb hr (fun t e1 hW => ⟨⟨_, (), rfl, ⟨rfl, trivial⟩, q_at e1 hP⟩, hS.F e1⟩) hS.2.2 dX9_reader_8
abbrev rmX9_melt : Room := { frames := 1, cells := 0, slots := 0, locals := 25 }
set_option maxHeartbeats 4000000 in
set_option maxRecDepth 100000 in
theorem kX9_melt (l : Launch) (D : va_G) (cI cZ cO : ClassId) (d0 : Nat → Nat) (sz : Nat) (S0 : St) (p0 : Int32) (tg : Int32 × St) (ht : xX9_melt p0 S0 = some tg) : Met l yX9_melt wsX9_melt rmX9_melt (q_PM D cI cZ cO [.ref (d0 0), .int p0] sz (wg9 cI cZ d0 S0)) (va_Qi (fun x (_ : Unit) => x = tg.1 ∧ True) (fun _ t => va_P D vwCl (wg9 cI cZ d0 tg.2) t.heap) (va_A (wg9 cI cZ d0 S0) sz)) 0 0 (va_A (wg9 cI cZ d0 S0) sz) := by
  refine Met.ofW (cc := cX9_melt) (maxL := 3) (ret := (some .int)) (by decide) rfl ?_
  intro p e s m args below meth c s₁ B hml hv
  obtain ⟨rfl, hsz, hE, hP, hD0⟩ := hv
  have hx := B.exec
  have hb := B.bytes
  have hr := B.returns
  have hts := atoms_spec (ws := wsX9_melt) B.pre
  have hown : s.vm.findClass RX9 = some m.cls := findClass_of_methodNamed B.named
  have hlocks := B.notSynchronized
  have hi9 : ∀ w ∈ u_ws RX9 TX9 37, w ∈ wsX9_melt := by decide +kernel
  have hw0 := hts (.constantLong RX9 109 (9)) (by decide +kernel)
  have hw1 := hts (.fieldLink RX9 77 "HailNamesModel" "melting" "I") (by decide +kernel)
  subst hsz
  have hD1 := hD0.self (sz := s.heap.size)
  generalize hAe : va_A (wg9 cI cZ d0 S0) s.heap.size = A at hD1 ⊢
  have hA : ∀ q : Nat, s.heap.size ≤ q → A q := fun q h => by rw [← hAe]; exact Or.inr h
  have hS : va_S A s.heap s.heap [] := va_S.rf
  have hD : ∀ (S0 : St), va_D A (wg9 cI cZ d0 S0) := fun S0 => q_D hD1 rfl
  have hl := lv_entry ([.ref (d0 0), .int p0]) (n := 3) (Nat.le_of_ble_eq_true rfl)
  rw [lg_entry_eq]
  generalize (lg_sl ([.ref (d0 0), .int p0]) ++ List.replicate (3 - (lg_sl ([.ref (d0 0), .int p0])).length) Slot.unset).toArray = ls at hl ⊢
  have hl : lv_has ls 3 [(0, .ref (d0 0)), (1, .int p0)] := hl
  have ht := (xX9_melt_s p0 S0).symm.trans ht
  refine lv_iload_n hx hb dX9_melt_0 rfl (lv_at hl 1 rfl) ?_
  refine lv_i2l (v := p0.toInt64) hx hb dX9_melt_1 rfl ?_
  refine lv_lconst (v := 1) hx hb dX9_melt_2 (by decide) ?_
  refine lv_ldc2 hx hb hown hw0 dX9_melt_3 ?_
  refine q_ri (va_runS (As := [.long p0.toInt64, .long 1, .long 9]) (rest := []) ⟨hx, hb, hml, hown, hts⟩ (kX9_in l D cI cZ cO p0.toInt64 1 9) (va_cwS 3 hts gX9_melt_X9_in rfl rfl rfl (by decide +kernel) ⟨Nat.le_of_ble_eq_true rfl, Nat.le_of_ble_eq_true rfl⟩) (q_rS hE q_nil) rfl rfl hl.1 rfl (lv_room (Nat.le_of_ble_eq_true rfl)) dX9_melt_6 ⟨Nat.le_of_ble_eq_true rfl, Nat.le_of_ble_eq_true rfl⟩) (fun b1 => ?_)
  refine lv_if_ne (tgt := 15) hx hb dX9_melt_9 (by decide) (fun c2 => ?_) (fun c2 => ?_)
  · have ht := it_n c2 ht
    refine lv_aload_n hx hb dX9_melt_15 rfl (lv_at hl 0 rfl) ?_
    refine va_get (D := D) (ci := 9) (v := .int (S0 9 0)) (C := RX9) (T := TX9) (N := 37) hx hb hts hi9 hown hE.1 hP 0 rfl rfl 9 (by decide) hw1 (fun _ h9 => h9) rfl dX9_melt_16 ?_
    refine lv_istore_n (lv' := [(2, .int (S0 9 0)), (0, .ref (d0 0)), (1, .int p0)]) hx hb dX9_melt_19 rfl hl (by decide) rfl (fun ls hl => ?_)
    refine lv_aload_n hx hb dX9_melt_20 rfl (lv_at hl 1 rfl) ?_
    refine lv_iload_n hx hb dX9_melt_21 rfl (lv_at hl 2 rfl) ?_
    refine va_put (D := D) (ci := 9) (v := .int p0) (ty := .int) (C := RX9) (T := TX9) (N := 37) hx hb hts hi9 tyX9 tyX9_ok nmX9 hown hE.1 hP (hD _) hS 0 rfl rfl 9 (by decide) hw1 (fun _ h9 => h9) rfl (by decide +kernel) rfl rfl (Nat.le_of_ble_eq_true rfl) dX9_melt_22 (fun H locs hP _ hS => ?_)
    have hP : va_P D vwCl (wg9 cI cZ d0 (q_su S0 9 0 p0)) H := hP
    obtain ⟨T3, eT3⟩ : ∃ z : St, z = q_su S0 9 0 p0 := ⟨_, rfl⟩
    rw [← eT3] at hP
    have ht := it_l ht eT3
    refine lv_iload_n hx hb dX9_melt_25 rfl (lv_at hl 0 rfl) ?_
    obtain rfl := Option.some.inj ht
    exact W.iret (v := S0 9 0) hx hb hr (fun t e1 hW => ⟨⟨_, (), rfl, ⟨rfl, trivial⟩, q_at e1 hP⟩, hS.F e1⟩) hS.2.2 dX9_melt_26
  · have ht := it_p c2 ht
    refine lv_bipush (v := (-2)) hx hb dX9_melt_12 (by decide) ?_
    obtain rfl := Option.some.inj ht
    exact W.iret (v := (-2)) hx hb hr (fun t e1 hW => ⟨⟨_, (), rfl, ⟨rfl, trivial⟩, q_at e1 hP⟩, hS.F e1⟩) hS.2.2 dX9_melt_14
abbrev rmX9_say : Room := { frames := 1, cells := 0, slots := 0, locals := 25 }
set_option maxHeartbeats 4000000 in
set_option maxRecDepth 100000 in
theorem kX9_say (l : Launch) (D : va_G) (cI cZ cO : ClassId) (d0 : Nat → Nat) (sz : Nat) (S0 : St) (p0 : Int32) (tg : Int32 × St) (ht : xX9_say p0 S0 = some tg) : Met l yX9_say wsX9_say rmX9_say (q_PM D cI cZ cO [.ref (d0 0), .int p0] sz (wg9 cI cZ d0 S0)) (va_Qi (fun x (_ : Unit) => x = tg.1 ∧ True) (fun _ t => va_P D vwCl (wg9 cI cZ d0 tg.2) t.heap) (va_A (wg9 cI cZ d0 S0) sz)) 0 0 (va_A (wg9 cI cZ d0 S0) sz) := by
  refine Met.ofW (cc := cX9_say) (maxL := 2) (ret := (some .int)) (by decide) rfl ?_
  intro p e s m args below meth c s₁ B hml hv
  obtain ⟨rfl, hsz, hE, hP, hD0⟩ := hv
  have hx := B.exec
  have hb := B.bytes
  have hr := B.returns
  have hts := atoms_spec (ws := wsX9_say) B.pre
  have hown : s.vm.findClass RX9 = some m.cls := findClass_of_methodNamed B.named
  have hlocks := B.notSynchronized
  have hi9 : ∀ w ∈ u_ws RX9 TX9 37, w ∈ wsX9_say := by decide +kernel
  have hw0 := hts (.constantLong RX9 111 (33)) (by decide +kernel)
  have hw1 := hts (.constantLong RX9 113 (126)) (by decide +kernel)
  have hw2 := hts (.fieldLink RX9 115 "HailNamesModel" "padMany" "I") (by decide +kernel)
  have hw3 := hts (.fieldLink RX9 46 "HailNamesModel" "pad" "[I") (by decide +kernel)
  subst hsz
  have hD1 := hD0.self (sz := s.heap.size)
  generalize hAe : va_A (wg9 cI cZ d0 S0) s.heap.size = A at hD1 ⊢
  have hA : ∀ q : Nat, s.heap.size ≤ q → A q := fun q h => by rw [← hAe]; exact Or.inr h
  have hS : va_S A s.heap s.heap [] := va_S.rf
  have hD : ∀ (S0 : St), va_D A (wg9 cI cZ d0 S0) := fun S0 => q_D hD1 rfl
  have hl := lv_entry ([.ref (d0 0), .int p0]) (n := 2) (Nat.le_of_ble_eq_true rfl)
  rw [lg_entry_eq]
  generalize (lg_sl ([.ref (d0 0), .int p0]) ++ List.replicate (2 - (lg_sl ([.ref (d0 0), .int p0])).length) Slot.unset).toArray = ls at hl ⊢
  have hl : lv_has ls 2 [(0, .ref (d0 0)), (1, .int p0)] := hl
  have ht := (xX9_say_s p0 S0).symm.trans ht
  refine lv_iload_n hx hb dX9_say_0 rfl (lv_at hl 1 rfl) ?_
  refine lv_i2l (v := p0.toInt64) hx hb dX9_say_1 rfl ?_
  refine lv_ldc2 hx hb hown hw0 dX9_say_2 ?_
  refine lv_ldc2 hx hb hown hw1 dX9_say_5 ?_
  refine q_ri (va_runS (As := [.long p0.toInt64, .long 33, .long 126]) (rest := []) ⟨hx, hb, hml, hown, hts⟩ (kX9_in l D cI cZ cO p0.toInt64 33 126) (va_cwS 3 hts gX9_say_X9_in rfl rfl rfl (by decide +kernel) ⟨Nat.le_of_ble_eq_true rfl, Nat.le_of_ble_eq_true rfl⟩) (q_rS hE q_nil) rfl rfl hl.1 rfl (lv_room (Nat.le_of_ble_eq_true rfl)) dX9_say_8 ⟨Nat.le_of_ble_eq_true rfl, Nat.le_of_ble_eq_true rfl⟩) (fun b1 => ?_)
  refine lv_if_ne (tgt := 17) hx hb dX9_say_11 (by decide) (fun c2 => ?_) (fun c2 => ?_)
  · have ht := it_n c2 ht
    refine lv_aload_n hx hb dX9_say_17 rfl (lv_at hl 0 rfl) ?_
    refine va_get (D := D) (ci := 9) (v := .int (S0 16 0)) (C := RX9) (T := TX9) (N := 37) hx hb hts hi9 hown hE.1 hP 0 rfl rfl 16 (by decide) hw2 (fun _ h9 => h9) rfl dX9_say_18 ?_
    refine lv_bipush (v := 60) hx hb dX9_say_21 (by decide) ?_
    refine lv_icmp_ne (tgt := 29) hx hb dX9_say_23 (by decide) (fun c3 => ?_) (fun c3 => ?_)
    · have ht := it_n c3 ht
      refine lv_aload_n hx hb dX9_say_29 rfl (lv_at hl 0 rfl) ?_
      refine va_get (D := D) (ci := 9) (v := .ref (d0 16)) (C := RX9) (T := TX9) (N := 37) hx hb hts hi9 hown hE.1 hP 0 rfl rfl 15 (by decide) hw3 (fun _ h9 => h9) rfl dX9_say_30 ?_
      refine lv_aload_n hx hb dX9_say_33 rfl (lv_at hl 0 rfl) ?_
      refine va_get (D := D) (ci := 9) (v := .int (S0 16 0)) (C := RX9) (T := TX9) (N := 37) hx hb hts hi9 hown hE.1 hP 0 rfl rfl 16 (by decide) hw2 (fun _ h9 => h9) rfl dX9_say_34 ?_
      refine lv_iload_n hx hb dX9_say_37 rfl (lv_at hl 1 rfl) ?_
      obtain ⟨g4, ht⟩ := it_g ht
      refine va_iast hx hb hE.1 hP (hD _) hS 13 0 rfl rfl (q_in g4) dX9_say_38 (fun H locs hP _ hS => ?_)
      have hP : va_P D vwCl (wg9 cI cZ d0 (q_su S0 15 ((S0 16 0).toNatClampNeg) p0)) H := hP
      obtain ⟨T5, eT5⟩ : ∃ z : St, z = q_su S0 15 ((S0 16 0).toNatClampNeg) p0 := ⟨_, rfl⟩
      rw [← eT5] at hP
      have ht := it_l ht eT5
      refine lv_aload_n hx hb dX9_say_39 rfl (lv_at hl 0 rfl) ?_
      refine lv_dup hx hb dX9_say_40 rfl ?_
      refine va_get (D := D) (ci := 9) (v := .int (T5 16 0)) (C := RX9) (T := TX9) (N := 37) hx hb hts hi9 hown hE.1 hP 0 rfl rfl 16 (by decide) hw2 (fun _ h9 => h9) rfl dX9_say_41 ?_
      refine lv_iconst (v := 1) hx hb dX9_say_44 (by decide) ?_
      refine lv_iadd hx hb dX9_say_45 ?_
      refine va_put (D := D) (ci := 9) (v := .int ((T5 16 0) + 1)) (ty := .int) (C := RX9) (T := TX9) (N := 37) hx hb hts hi9 tyX9 tyX9_ok nmX9 hown hE.1 hP (hD _) hS 0 rfl rfl 16 (by decide) hw2 (fun _ h9 => h9) rfl (by decide +kernel) rfl rfl (Nat.le_of_ble_eq_true rfl) dX9_say_46 (fun H locs hP _ hS => ?_)
      have hP : va_P D vwCl (wg9 cI cZ d0 (q_su T5 16 0 ((T5 16 0) + 1))) H := hP
      obtain ⟨T6, eT6⟩ : ∃ z : St, z = q_su T5 16 0 ((T5 16 0) + 1) := ⟨_, rfl⟩
      rw [← eT6] at hP
      have ht := it_l ht eT6
      refine lv_aload_n hx hb dX9_say_49 rfl (lv_at hl 0 rfl) ?_
      refine va_get (D := D) (ci := 9) (v := .int (T6 16 0)) (C := RX9) (T := TX9) (N := 37) hx hb hts hi9 hown hE.1 hP 0 rfl rfl 16 (by decide) hw2 (fun _ h9 => h9) rfl dX9_say_50 ?_
      obtain rfl := Option.some.inj ht
      exact W.iret (v := T6 16 0) hx hb hr (fun t e1 hW => ⟨⟨_, (), rfl, ⟨rfl, trivial⟩, q_at e1 hP⟩, hS.F e1⟩) hS.2.2 dX9_say_53
    · have ht := it_p c3 ht
      refine lv_bipush (v := (-4)) hx hb dX9_say_26 (by decide) ?_
      obtain rfl := Option.some.inj ht
      exact W.iret (v := (-4)) hx hb hr (fun t e1 hW => ⟨⟨_, (), rfl, ⟨rfl, trivial⟩, q_at e1 hP⟩, hS.F e1⟩) hS.2.2 dX9_say_28
  · have ht := it_p c2 ht
    refine lv_bipush (v := (-2)) hx hb dX9_say_14 (by decide) ?_
    obtain rfl := Option.some.inj ht
    exact W.iret (v := (-2)) hx hb hr (fun t e1 hW => ⟨⟨_, (), rfl, ⟨rfl, trivial⟩, q_at e1 hP⟩, hS.F e1⟩) hS.2.2 dX9_say_16
abbrev rmX9_wipe : Room := { frames := 0, cells := 0, slots := 0, locals := 0 }
set_option maxHeartbeats 4000000 in
set_option maxRecDepth 100000 in
theorem kX9_wipe (l : Launch) (D : va_G) (cI cZ cO : ClassId) (d0 : Nat → Nat) (sz : Nat) (S0 : St) (tg : Int32 × St) (ht : xX9_wipe S0 = some tg) : Met l yX9_wipe wsX9_wipe rmX9_wipe (q_PM D cI cZ cO [.ref (d0 0)] sz (wg9 cI cZ d0 S0)) (va_Qi (fun x (_ : Unit) => x = tg.1 ∧ True) (fun _ t => va_P D vwCl (wg9 cI cZ d0 tg.2) t.heap) (va_A (wg9 cI cZ d0 S0) sz)) 0 0 (va_A (wg9 cI cZ d0 S0) sz) := by
  refine Met.ofW (cc := cX9_wipe) (maxL := 2) (ret := (some .int)) (by decide) rfl ?_
  intro p e s m args below meth c s₁ B hml hv
  obtain ⟨rfl, hsz, hE, hP, hD0⟩ := hv
  have hx := B.exec
  have hb := B.bytes
  have hr := B.returns
  have hts := atoms_spec (ws := wsX9_wipe) B.pre
  have hown : s.vm.findClass RX9 = some m.cls := findClass_of_methodNamed B.named
  have hlocks := B.notSynchronized
  have hi9 : ∀ w ∈ u_ws RX9 TX9 37, w ∈ wsX9_wipe := by decide +kernel
  have hw0 := hts (.fieldLink RX9 115 "HailNamesModel" "padMany" "I") (by decide +kernel)
  subst hsz
  have hD1 := hD0.self (sz := s.heap.size)
  generalize hAe : va_A (wg9 cI cZ d0 S0) s.heap.size = A at hD1 ⊢
  have hA : ∀ q : Nat, s.heap.size ≤ q → A q := fun q h => by rw [← hAe]; exact Or.inr h
  have hS : va_S A s.heap s.heap [] := va_S.rf
  have hD : ∀ (S0 : St), va_D A (wg9 cI cZ d0 S0) := fun S0 => q_D hD1 rfl
  have hl := lv_entry ([.ref (d0 0)]) (n := 2) (Nat.le_of_ble_eq_true rfl)
  rw [lg_entry_eq]
  generalize (lg_sl ([.ref (d0 0)]) ++ List.replicate (2 - (lg_sl ([.ref (d0 0)])).length) Slot.unset).toArray = ls at hl ⊢
  have hl : lv_has ls 2 [(0, .ref (d0 0))] := hl
  have ht := (xX9_wipe_s S0).symm.trans ht
  refine lv_aload_n hx hb dX9_wipe_0 rfl (lv_at hl 0 rfl) ?_
  refine va_get (D := D) (ci := 9) (v := .int (S0 16 0)) (C := RX9) (T := TX9) (N := 37) hx hb hts hi9 hown hE.1 hP 0 rfl rfl 16 (by decide) hw0 (fun _ h9 => h9) rfl dX9_wipe_1 ?_
  refine lv_istore_n (lv' := [(1, .int (S0 16 0)), (0, .ref (d0 0))]) hx hb dX9_wipe_4 rfl hl (by decide) rfl (fun ls hl => ?_)
  refine lv_aload_n hx hb dX9_wipe_5 rfl (lv_at hl 1 rfl) ?_
  refine lv_iconst (v := 0) hx hb dX9_wipe_6 (by decide) ?_
  refine va_put (D := D) (ci := 9) (v := .int 0) (ty := .int) (C := RX9) (T := TX9) (N := 37) hx hb hts hi9 tyX9 tyX9_ok nmX9 hown hE.1 hP (hD _) hS 0 rfl rfl 16 (by decide) hw0 (fun _ h9 => h9) rfl (by decide +kernel) rfl rfl (Nat.le_of_ble_eq_true rfl) dX9_wipe_7 (fun H locs hP _ hS => ?_)
  have hP : va_P D vwCl (wg9 cI cZ d0 (q_su S0 16 0 0)) H := hP
  obtain ⟨T1, eT1⟩ : ∃ z : St, z = q_su S0 16 0 0 := ⟨_, rfl⟩
  rw [← eT1] at hP
  have ht := it_l ht eT1
  refine lv_iload_n hx hb dX9_wipe_10 rfl (lv_at hl 0 rfl) ?_
  obtain rfl := Option.some.inj ht
  exact W.iret (v := S0 16 0) hx hb hr (fun t e1 hW => ⟨⟨_, (), rfl, ⟨rfl, trivial⟩, q_at e1 hP⟩, hS.F e1⟩) hS.2.2 dX9_wipe_11
abbrev rmX9_close : Room := { frames := 0, cells := 0, slots := 0, locals := 0 }
set_option maxHeartbeats 4000000 in
set_option maxRecDepth 100000 in
theorem kX9_close (l : Launch) (D : va_G) (cI cZ cO : ClassId) (d0 : Nat → Nat) (sz : Nat) (S0 : St) (p0 : Int32) (p1 : Int32) (tg : Int32 × St) (ht : xX9_close p0 p1 S0 = some tg) : Met l yX9_close wsX9_close rmX9_close (q_PM D cI cZ cO [.ref (d0 0), .int p0, .int p1] sz (wg9 cI cZ d0 S0)) (va_Qi (fun x (_ : Unit) => x = tg.1 ∧ True) (fun _ t => va_P D vwCl (wg9 cI cZ d0 tg.2) t.heap) (va_A (wg9 cI cZ d0 S0) sz)) 0 0 (va_A (wg9 cI cZ d0 S0) sz) := by
  refine Met.ofW (cc := cX9_close) (maxL := 3) (ret := (some .int)) (by decide) rfl ?_
  intro p e s m args below meth c s₁ B hml hv
  obtain ⟨rfl, hsz, hE, hP, hD0⟩ := hv
  have hx := B.exec
  have hb := B.bytes
  have hr := B.returns
  have hts := atoms_spec (ws := wsX9_close) B.pre
  have hown : s.vm.findClass RX9 = some m.cls := findClass_of_methodNamed B.named
  have hlocks := B.notSynchronized
  have hi9 : ∀ w ∈ u_ws RX9 TX9 37, w ∈ wsX9_close := by decide +kernel
  have hw0 := hts (.fieldLink RX9 49 "HailNamesModel" "act" "[I") (by decide +kernel)
  have hw1 := hts (.fieldLink RX9 118 "HailNamesModel" "acts" "I") (by decide +kernel)
  have hw2 := hts (.fieldLink RX9 55 "HailNamesModel" "whom" "[I") (by decide +kernel)
  subst hsz
  have hD1 := hD0.self (sz := s.heap.size)
  generalize hAe : va_A (wg9 cI cZ d0 S0) s.heap.size = A at hD1 ⊢
  have hA : ∀ q : Nat, s.heap.size ≤ q → A q := fun q h => by rw [← hAe]; exact Or.inr h
  have hS : va_S A s.heap s.heap [] := va_S.rf
  have hD : ∀ (S0 : St), va_D A (wg9 cI cZ d0 S0) := fun S0 => q_D hD1 rfl
  have hl := lv_entry ([.ref (d0 0), .int p0, .int p1]) (n := 3) (Nat.le_of_ble_eq_true rfl)
  rw [lg_entry_eq]
  generalize (lg_sl ([.ref (d0 0), .int p0, .int p1]) ++ List.replicate (3 - (lg_sl ([.ref (d0 0), .int p0, .int p1])).length) Slot.unset).toArray = ls at hl ⊢
  have hl : lv_has ls 3 [(0, .ref (d0 0)), (1, .int p0), (2, .int p1)] := hl
  have ht := (xX9_close_s p0 p1 S0).symm.trans ht
  refine lv_aload_n hx hb dX9_close_0 rfl (lv_at hl 0 rfl) ?_
  refine va_get (D := D) (ci := 9) (v := .ref (d0 18)) (C := RX9) (T := TX9) (N := 37) hx hb hts hi9 hown hE.1 hP 0 rfl rfl 17 (by decide) hw0 (fun _ h9 => h9) rfl dX9_close_1 ?_
  refine lv_aload_n hx hb dX9_close_4 rfl (lv_at hl 0 rfl) ?_
  refine va_get (D := D) (ci := 9) (v := .int (S0 20 0)) (C := RX9) (T := TX9) (N := 37) hx hb hts hi9 hown hE.1 hP 0 rfl rfl 20 (by decide) hw1 (fun _ h9 => h9) rfl dX9_close_5 ?_
  refine lv_iload_n hx hb dX9_close_8 rfl (lv_at hl 1 rfl) ?_
  obtain ⟨g1, ht⟩ := it_g ht
  refine va_iast hx hb hE.1 hP (hD _) hS 14 0 rfl rfl (q_in g1) dX9_close_9 (fun H locs hP _ hS => ?_)
  have hP : va_P D vwCl (wg9 cI cZ d0 (q_su S0 17 ((S0 20 0).toNatClampNeg) p0)) H := hP
  obtain ⟨T2, eT2⟩ : ∃ z : St, z = q_su S0 17 ((S0 20 0).toNatClampNeg) p0 := ⟨_, rfl⟩
  rw [← eT2] at hP
  have ht := it_l ht eT2
  refine lv_aload_n hx hb dX9_close_10 rfl (lv_at hl 0 rfl) ?_
  refine va_get (D := D) (ci := 9) (v := .ref (d0 20)) (C := RX9) (T := TX9) (N := 37) hx hb hts hi9 hown hE.1 hP 0 rfl rfl 19 (by decide) hw2 (fun _ h9 => h9) rfl dX9_close_11 ?_
  refine lv_aload_n hx hb dX9_close_14 rfl (lv_at hl 0 rfl) ?_
  refine va_get (D := D) (ci := 9) (v := .int (T2 20 0)) (C := RX9) (T := TX9) (N := 37) hx hb hts hi9 hown hE.1 hP 0 rfl rfl 20 (by decide) hw1 (fun _ h9 => h9) rfl dX9_close_15 ?_
  refine lv_iload_n hx hb dX9_close_18 rfl (lv_at hl 2 rfl) ?_
  obtain ⟨g3, ht⟩ := it_g ht
  refine va_iast hx hb hE.1 hP (hD _) hS 16 0 rfl rfl (q_in g3) dX9_close_19 (fun H locs hP _ hS => ?_)
  have hP : va_P D vwCl (wg9 cI cZ d0 (q_su T2 19 ((T2 20 0).toNatClampNeg) p1)) H := hP
  obtain ⟨T4, eT4⟩ : ∃ z : St, z = q_su T2 19 ((T2 20 0).toNatClampNeg) p1 := ⟨_, rfl⟩
  rw [← eT4] at hP
  have ht := it_l ht eT4
  refine lv_aload_n hx hb dX9_close_20 rfl (lv_at hl 0 rfl) ?_
  refine lv_dup hx hb dX9_close_21 rfl ?_
  refine va_get (D := D) (ci := 9) (v := .int (T4 20 0)) (C := RX9) (T := TX9) (N := 37) hx hb hts hi9 hown hE.1 hP 0 rfl rfl 20 (by decide) hw1 (fun _ h9 => h9) rfl dX9_close_22 ?_
  refine lv_iconst (v := 1) hx hb dX9_close_25 (by decide) ?_
  refine lv_iadd hx hb dX9_close_26 ?_
  refine va_put (D := D) (ci := 9) (v := .int ((T4 20 0) + 1)) (ty := .int) (C := RX9) (T := TX9) (N := 37) hx hb hts hi9 tyX9 tyX9_ok nmX9 hown hE.1 hP (hD _) hS 0 rfl rfl 20 (by decide) hw1 (fun _ h9 => h9) rfl (by decide +kernel) rfl rfl (Nat.le_of_ble_eq_true rfl) dX9_close_27 (fun H locs hP _ hS => ?_)
  have hP : va_P D vwCl (wg9 cI cZ d0 (q_su T4 20 0 ((T4 20 0) + 1))) H := hP
  obtain ⟨T5, eT5⟩ : ∃ z : St, z = q_su T4 20 0 ((T4 20 0) + 1) := ⟨_, rfl⟩
  rw [← eT5] at hP
  have ht := it_l ht eT5
  refine lv_iconst (v := 0) hx hb dX9_close_30 (by decide) ?_
  obtain rfl := Option.some.inj ht
  exact W.iret (v := 0) hx hb hr (fun t e1 hW => ⟨⟨_, (), rfl, ⟨rfl, trivial⟩, q_at e1 hP⟩, hS.F e1⟩) hS.2.2 dX9_close_31
abbrev rmX9_begin : Room := { frames := 1, cells := 0, slots := 0, locals := 25 }
set_option maxHeartbeats 4000000 in
set_option maxRecDepth 100000 in
theorem kX9_begin (l : Launch) (D : va_G) (cI cZ cO : ClassId) (d0 : Nat → Nat) (sz : Nat) (S0 : St) (p0 : Int32) (tg : Int32 × St) (ht : xX9_begin p0 S0 = some tg) : Met l yX9_begin wsX9_begin rmX9_begin (q_PM D cI cZ cO [.ref (d0 0), .int p0] sz (wg9 cI cZ d0 S0)) (va_Qi (fun x (_ : Unit) => x = tg.1 ∧ True) (fun _ t => va_P D vwCl (wg9 cI cZ d0 tg.2) t.heap) (va_A (wg9 cI cZ d0 S0) sz)) 0 0 (va_A (wg9 cI cZ d0 S0) sz) := by
  refine Met.ofW (cc := cX9_begin) (maxL := 4) (ret := (some .int)) (by decide) rfl ?_
  intro p e s m args below meth c s₁ B hml hv
  obtain ⟨rfl, hsz, hE, hP, hD0⟩ := hv
  have hx := B.exec
  have hb := B.bytes
  have hr := B.returns
  have hts := atoms_spec (ws := wsX9_begin) B.pre
  have hown : s.vm.findClass RX9 = some m.cls := findClass_of_methodNamed B.named
  have hlocks := B.notSynchronized
  have hi9 : ∀ w ∈ u_ws RX9 TX9 37, w ∈ wsX9_begin := by decide +kernel
  have hw0 := hts (.constantLong RX9 121 (65)) (by decide +kernel)
  have hw1 := hts (.constantLong RX9 123 (72)) (by decide +kernel)
  have hw2 := hts (.constantLong RX9 125 (48)) (by decide +kernel)
  have hw3 := hts (.constantLong RX9 127 (51)) (by decide +kernel)
  have hw4 := hts (.fieldLink RX9 52 "HailNamesModel" "who" "[I") (by decide +kernel)
  have hw5 := hts (.fieldLink RX9 118 "HailNamesModel" "acts" "I") (by decide +kernel)
  subst hsz
  have hD1 := hD0.self (sz := s.heap.size)
  generalize hAe : va_A (wg9 cI cZ d0 S0) s.heap.size = A at hD1 ⊢
  have hA : ∀ q : Nat, s.heap.size ≤ q → A q := fun q h => by rw [← hAe]; exact Or.inr h
  have hS : va_S A s.heap s.heap [] := va_S.rf
  have hD : ∀ (S0 : St), va_D A (wg9 cI cZ d0 S0) := fun S0 => q_D hD1 rfl
  have hl := lv_entry ([.ref (d0 0), .int p0]) (n := 4) (Nat.le_of_ble_eq_true rfl)
  rw [lg_entry_eq]
  generalize (lg_sl ([.ref (d0 0), .int p0]) ++ List.replicate (4 - (lg_sl ([.ref (d0 0), .int p0])).length) Slot.unset).toArray = ls at hl ⊢
  have hl : lv_has ls 4 [(0, .ref (d0 0)), (1, .int p0)] := hl
  have ht := (xX9_begin_s p0 S0).symm.trans ht
  obtain ⟨Q, hQ⟩ : ∃ Q, Q = MQ below (va_Qi (fun x (_ : Unit) => x = tg.1 ∧ True) (fun _ t => va_P D vwCl (wg9 cI cZ d0 tg.2) t.heap) A) ([.ref (d0 0), .int p0] : List Value).toArray s 0 0 A := ⟨_, rfl⟩
  rw [← hQ]
  have J55 : ∀ (x2 : Int32) (x3 : Int32) (z1 : Int32) (z2 : Int32) (S0 : St) (H : Heap) (locs : List Loc) (_ : va_P D vwCl (wg9 cI cZ d0 S0) H) (_ : va_S A s.heap H locs) (ls : Array Slot) (_ : lv_has ls 4 [(0, .ref (d0 0)), (1, .int p0), (2, .int x2), (3, .int x3)]) (_ : xX9_begin_h55 p0 x2 x3 z1 z2 S0 = some tg), W p l e (headSpec wsX9_begin rmX9_begin).room s m ([.ref (d0 0), .int p0] : List Value).toArray below meth c H locs 0 0 Q (F0 m 55 ls [.int z2, .int z1, .ref (d0 19)]) := by
    intro x2 x3 z1 z2 S0 H locs hP hS ls hl ht
    have ht := (xX9_begin_h55_s p0 x2 x3 z1 z2 S0).symm.trans ht
    obtain ⟨g5, ht⟩ := it_g ht
    refine va_iast hx hb hE.1 hP (hD _) hS 15 0 rfl rfl (q_in g5) dX9_begin_55 (fun H locs hP _ hS => ?_)
    have hP : va_P D vwCl (wg9 cI cZ d0 (q_su S0 18 z1.toNatClampNeg z2)) H := hP
    obtain ⟨T6, eT6⟩ : ∃ z : St, z = q_su S0 18 z1.toNatClampNeg z2 := ⟨_, rfl⟩
    rw [← eT6] at hP
    have ht := it_l ht eT6
    refine lv_iload_n hx hb dX9_begin_56 rfl (lv_at hl 2 rfl) ?_
    refine lv_if_eq (tgt := 64) hx hb dX9_begin_57 (by decide) (fun c7 => ?_) (fun c7 => ?_)
    · have ht := it_p c7 ht
      refine lv_iload_n hx hb dX9_begin_64 rfl (lv_at hl 3 rfl) ?_
      refine lv_if_eq (tgt := 72) hx hb dX9_begin_65 (by decide) (fun c8 => ?_) (fun c8 => ?_)
      · have ht := it_p c8 ht
        refine lv_iload_n hx hb dX9_begin_72 rfl (lv_at hl 1 rfl) ?_
        refine lv_bipush (v := 46) hx hb dX9_begin_73 (by decide) ?_
        refine lv_icmp_ne (tgt := 87) hx hb dX9_begin_75 (by decide) (fun c9 => ?_) (fun c9 => ?_)
        · have ht := it_n c9 ht
          refine lv_bipush (v := (-6)) hx hb dX9_begin_87 (by decide) ?_
          subst hQ
          obtain rfl := Option.some.inj ht
          exact W.iret (v := (-6)) hx hb hr (fun t e1 hW => ⟨⟨_, (), rfl, ⟨rfl, trivial⟩, q_at e1 hP⟩, hS.F e1⟩) hS.2.2 dX9_begin_89
        · have ht := it_p c9 ht
          refine lv_aload_n hx hb dX9_begin_78 rfl (lv_at hl 0 rfl) ?_
          refine lv_iconst (v := 5) hx hb dX9_begin_79 (by decide) ?_
          refine lv_iconst (v := 0) hx hb dX9_begin_80 (by decide) ?_
          obtain ⟨q10, hq10, ht⟩ := it_b ht
          have hFc := q_freeW (hD T6) hS hA
          refine q_mi (va_runV (As := [.int 5, .int 0]) (rest := []) ⟨hx, hb, hml, hown, hts⟩ (kX9_close l D cI cZ cO d0 H.size T6 5 0 q10 hq10) (cwV 2 hts gX9_begin_X9_close rfl rfl rfl (by decide +kernel) ⟨Nat.le_of_ble_eq_true rfl, Nat.le_of_ble_eq_true rfl⟩) (q_mV (As := [.int 5, .int 0]) hE hP (hD T6) (q0 := 0) (ci := 9) rfl rfl) rfl rfl hl.1 rfl (lv_room (Nat.le_of_ble_eq_true rfl)) dX9_begin_81 ⟨Nat.le_of_ble_eq_true rfl, Nat.le_of_ble_eq_true rfl⟩) hS hFc (fun H locs b11 hP1 hk hS => ?_)
          have hP : va_P D vwCl (wg9 cI cZ d0 q10.2) H := hP1
          refine lv_goto (tgt := 89) hx hb dX9_begin_84 (by decide) ?_
          subst hQ
          obtain rfl := Option.some.inj ht
          exact W.iret (v := q10.1) hx hb hr (fun t e1 hW => ⟨⟨_, (), rfl, ⟨rfl, trivial⟩, q_at e1 hP⟩, hS.F e1⟩) hS.2.2 dX9_begin_89
      · have ht := it_n c8 ht
        refine lv_iconst (v := 2) hx hb dX9_begin_68 (by decide) ?_
        refine lv_goto (tgt := 89) hx hb dX9_begin_69 (by decide) ?_
        subst hQ
        obtain rfl := Option.some.inj ht
        exact W.iret (v := 2) hx hb hr (fun t e1 hW => ⟨⟨_, (), rfl, ⟨rfl, trivial⟩, q_at e1 hP⟩, hS.F e1⟩) hS.2.2 dX9_begin_89
    · have ht := it_n c7 ht
      refine lv_iconst (v := 1) hx hb dX9_begin_60 (by decide) ?_
      refine lv_goto (tgt := 89) hx hb dX9_begin_61 (by decide) ?_
      subst hQ
      obtain rfl := Option.some.inj ht
      exact W.iret (v := 1) hx hb hr (fun t e1 hW => ⟨⟨_, (), rfl, ⟨rfl, trivial⟩, q_at e1 hP⟩, hS.F e1⟩) hS.2.2 dX9_begin_89
  refine lv_iload_n hx hb dX9_begin_0 rfl (lv_at hl 1 rfl) ?_
  refine lv_i2l (v := p0.toInt64) hx hb dX9_begin_1 rfl ?_
  refine lv_ldc2 hx hb hown hw0 dX9_begin_2 ?_
  refine lv_ldc2 hx hb hown hw1 dX9_begin_5 ?_
  refine q_ri (va_runS (As := [.long p0.toInt64, .long 65, .long 72]) (rest := []) ⟨hx, hb, hml, hown, hts⟩ (kX9_in l D cI cZ cO p0.toInt64 65 72) (va_cwS 3 hts gX9_begin_X9_in rfl rfl rfl (by decide +kernel) ⟨Nat.le_of_ble_eq_true rfl, Nat.le_of_ble_eq_true rfl⟩) (q_rS hE q_nil) rfl rfl hl.1 rfl (lv_room (Nat.le_of_ble_eq_true rfl)) dX9_begin_8 ⟨Nat.le_of_ble_eq_true rfl, Nat.le_of_ble_eq_true rfl⟩) (fun b1 => ?_)
  refine lv_istore_n (lv' := [(2, .int (xX9_in p0.toInt64 65 72)), (0, .ref (d0 0)), (1, .int p0)]) hx hb dX9_begin_11 rfl hl (by decide) rfl (fun ls hl => ?_)
  refine lv_iload_n hx hb dX9_begin_12 rfl (lv_at hl 2 rfl) ?_
  refine lv_i2l (v := p0.toInt64) hx hb dX9_begin_13 rfl ?_
  refine lv_ldc2 hx hb hown hw2 dX9_begin_14 ?_
  refine lv_ldc2 hx hb hown hw3 dX9_begin_17 ?_
  refine q_ri (va_runS (As := [.long p0.toInt64, .long 48, .long 51]) (rest := []) ⟨hx, hb, hml, hown, hts⟩ (kX9_in l D cI cZ cO p0.toInt64 48 51) (va_cwS 3 hts gX9_begin_X9_in rfl rfl rfl (by decide +kernel) ⟨Nat.le_of_ble_eq_true rfl, Nat.le_of_ble_eq_true rfl⟩) (q_rS hE q_nil) rfl rfl hl.1 rfl (lv_room (Nat.le_of_ble_eq_true rfl)) dX9_begin_20 ⟨Nat.le_of_ble_eq_true rfl, Nat.le_of_ble_eq_true rfl⟩) (fun b2 => ?_)
  refine lv_istore_n (lv' := [(3, .int (xX9_in p0.toInt64 48 51)), (2, .int (xX9_in p0.toInt64 65 72)), (0, .ref (d0 0)), (1, .int p0)]) hx hb dX9_begin_23 rfl hl (by decide) rfl (fun ls hl => ?_)
  refine lv_aload_n hx hb dX9_begin_24 rfl (lv_at hl 2 rfl) ?_
  refine va_get (D := D) (ci := 9) (v := .ref (d0 19)) (C := RX9) (T := TX9) (N := 37) hx hb hts hi9 hown hE.1 hP 0 rfl rfl 18 (by decide) hw4 (fun _ h9 => h9) rfl dX9_begin_25 ?_
  refine lv_aload_n hx hb dX9_begin_28 rfl (lv_at hl 2 rfl) ?_
  refine va_get (D := D) (ci := 9) (v := .int (S0 20 0)) (C := RX9) (T := TX9) (N := 37) hx hb hts hi9 hown hE.1 hP 0 rfl rfl 20 (by decide) hw5 (fun _ h9 => h9) rfl dX9_begin_29 ?_
  refine lv_iload_n hx hb dX9_begin_32 rfl (lv_at hl 1 rfl) ?_
  refine lv_if_eq (tgt := 43) hx hb dX9_begin_33 (by decide) (fun c3 => ?_) (fun c3 => ?_)
  · have ht := it_p c3 ht
    refine lv_iload_n hx hb dX9_begin_43 rfl (lv_at hl 0 rfl) ?_
    refine lv_if_eq (tgt := 54) hx hb dX9_begin_44 (by decide) (fun c4 => ?_) (fun c4 => ?_)
    · have ht := it_p c4 ht
      refine lv_iconst (v := 0) hx hb dX9_begin_54 (by decide) ?_
      exact J55 (xX9_in p0.toInt64 65 72) (xX9_in p0.toInt64 48 51) (S0 20 0) 0 S0 _ _ hP hS ls (lv_sub hl [2, 3, 1, 0] rfl) ht
    · have ht := it_n c4 ht
      refine lv_iload_n hx hb dX9_begin_47 rfl (lv_at hl 3 rfl) ?_
      refine lv_bipush (v := 48) hx hb dX9_begin_48 (by decide) ?_
      refine lv_isub hx hb dX9_begin_50 ?_
      refine lv_goto (tgt := 55) hx hb dX9_begin_51 (by decide) ?_
      exact J55 (xX9_in p0.toInt64 65 72) (xX9_in p0.toInt64 48 51) (S0 20 0) (p0 - 48) S0 _ _ hP hS ls (lv_sub hl [2, 3, 1, 0] rfl) ht
  · have ht := it_n c3 ht
    refine lv_iload_n hx hb dX9_begin_36 rfl (lv_at hl 3 rfl) ?_
    refine lv_bipush (v := 65) hx hb dX9_begin_37 (by decide) ?_
    refine lv_isub hx hb dX9_begin_39 ?_
    refine lv_goto (tgt := 55) hx hb dX9_begin_40 (by decide) ?_
    exact J55 (xX9_in p0.toInt64 65 72) (xX9_in p0.toInt64 48 51) (S0 20 0) (p0 - 65) S0 _ _ hP hS ls (lv_sub hl [2, 3, 1, 0] rfl) ht
