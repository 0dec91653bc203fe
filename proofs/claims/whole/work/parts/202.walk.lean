abbrev rmX4_firstFault : Room := { frames := 4, cells := 0, slots := 0, locals := 87 }
set_option maxHeartbeats 4000000 in
set_option maxRecDepth 100000 in
theorem kX4_firstFault (l : Launch) (D : va_G) (cI cZ cO : ClassId) (d0 : Nat → Nat) (S0 : St) (tg : Int32) (ht : xX4_firstFault S0 = some tg) : Met l yX4_firstFault wsX4_firstFault rmX4_firstFault (q_PR D cI cZ cO [.ref (d0 0)] (wg4 cI cZ d0 S0)) (vp_Si (fun x => x = tg ∧ True)) 0 0 (fun _ => False) := by
  refine Met.ofW (cc := cX4_firstFault) (maxL := 4) (ret := (some .int)) (by decide) rfl ?_
  intro p e s m args below meth c s₁ B hml hv
  obtain ⟨rfl, hE, hP⟩ := hv
  have hx := B.exec
  have hb := B.bytes
  have hr := B.returns
  have hts := atoms_spec (ws := wsX4_firstFault) B.pre
  have hown : s.vm.findClass RX4 = some m.cls := findClass_of_methodNamed B.named
  have hlocks := B.notSynchronized
  have hi4 : ∀ w ∈ u_ws RX4 TX4 2, w ∈ wsX4_firstFault := by decide +kernel
  have hw0 := hts (.fieldLink RX4 15 "HailNames$Pad" "length" "I") (by decide +kernel)
  have hl := lv_entry ([.ref (d0 0)]) (n := 4) (Nat.le_of_ble_eq_true rfl)
  rw [lg_entry_eq]
  generalize (lg_sl ([.ref (d0 0)]) ++ List.replicate (4 - (lg_sl ([.ref (d0 0)])).length) Slot.unset).toArray = ls at hl ⊢
  have hl : lv_has ls 4 [(0, .ref (d0 0))] := hl
  have ht := (xX4_firstFault_s S0).symm.trans ht
  obtain ⟨Q, hQ⟩ : ∃ Q, Q = MQ below (vp_Si (fun x => x = tg ∧ True)) ([.ref (d0 0)] : List Value).toArray s 0 0 (fun _ => False) := ⟨_, rfl⟩
  rw [← hQ]
  have L4 : ∀ (n : Nat) (x1 : Int32) (x2 : Int32) (ls : Array Slot) (_ : lv_has ls 4 [(0, .ref (d0 0)), (1, .int x1), (2, .int x2)]) (_ : xX4_firstFault_h4 S0 n x1 x2 = some tg), W p l e (headSpec wsX4_firstFault rmX4_firstFault).room s m ([.ref (d0 0)] : List Value).toArray below meth c s.heap [] 0 0 Q (F0 m 4 ls []) := by
    intro n
    induction n with
    | zero =>
      intro x1 x2 ls hl ht
      exact it_z ht
    | succ n4 ih4 =>
      intro x1 x2 ls hl ht
      have ht := (xX4_firstFault_h4_s S0 n4 x1 x2).symm.trans ht
      refine lv_iload_n hx hb dX4_firstFault_4 rfl (lv_at hl 2 rfl) ?_
      refine lv_bipush (v := 60) hx hb dX4_firstFault_5 (by decide) ?_
      refine lv_icmp_ge (tgt := 46) hx hb dX4_firstFault_7 (by decide) (fun c1 => ?_) (fun c1 => ?_)
      · have ht := it_p c1 ht
        refine lv_bipush (v := (-6)) hx hb dX4_firstFault_46 (by decide) ?_
        subst hQ
        have ht := Option.some.inj ht
        exact W.iret (v := (-6)) hx hb hr (fun t e1 hW => ⟨_, rfl, ⟨ht, trivial⟩, e1⟩) (fun q h => absurd h List.not_mem_nil) dX4_firstFault_48
      · have ht := it_n c1 ht
        refine lv_iload_n hx hb dX4_firstFault_10 rfl (lv_at hl 1 rfl) ?_
        refine lv_aload_n hx hb dX4_firstFault_11 rfl (lv_at hl 0 rfl) ?_
        refine va_get (D := D) (ci := 4) (v := .int (S0 1 0)) (C := RX4) (T := TX4) (N := 2) hx hb hts hi4 hown hE.1 hP 0 rfl rfl 1 (by decide) hw0 (fun _ h9 => h9) rfl dX4_firstFault_12 ?_
        refine lv_icmp_ge (tgt := 46) hx hb dX4_firstFault_15 (by decide) (fun c2 => ?_) (fun c2 => ?_)
        · have ht := it_p c2 ht
          refine lv_bipush (v := (-6)) hx hb dX4_firstFault_46 (by decide) ?_
          subst hQ
          have ht := Option.some.inj ht
          exact W.iret (v := (-6)) hx hb hr (fun t e1 hW => ⟨_, rfl, ⟨ht, trivial⟩, e1⟩) (fun q h => absurd h List.not_mem_nil) dX4_firstFault_48
        · have ht := it_n c2 ht
          refine lv_aload_n hx hb dX4_firstFault_18 rfl (lv_at hl 0 rfl) ?_
          refine lv_iload_n hx hb dX4_firstFault_19 rfl (lv_at hl 1 rfl) ?_
          obtain ⟨q3, hq3, ht⟩ := it_b ht
          refine q_ri (va_runV (As := [.int x1]) (rest := []) ⟨hx, hb, hml, hown, hts⟩ (kX4_faultOfAct l D cI cZ cO d0 S0 x1 q3 hq3) (cwV 1 hts gX4_firstFault_X4_faultOfAct rfl rfl rfl (by decide +kernel) ⟨Nat.le_of_ble_eq_true rfl, Nat.le_of_ble_eq_true rfl⟩) (q_rV (As := [.int x1]) hE hP (q0 := 0) (ci := 4) rfl rfl) rfl rfl hl.1 rfl (lv_room (Nat.le_of_ble_eq_true rfl)) dX4_firstFault_20 ⟨Nat.le_of_ble_eq_true rfl, Nat.le_of_ble_eq_true rfl⟩) (fun b4 => ?_)
          refine lv_istore_n (lv' := [(3, .int q3), (0, .ref (d0 0)), (1, .int x1), (2, .int x2)]) hx hb dX4_firstFault_23 rfl hl (by decide) rfl (fun ls hl => ?_)
          refine lv_iload_n hx hb dX4_firstFault_24 rfl (lv_at hl 0 rfl) ?_
          refine lv_bipush (v := (-6)) hx hb dX4_firstFault_25 (by decide) ?_
          refine lv_icmp_eq (tgt := 32) hx hb dX4_firstFault_27 (by decide) (fun c5 => ?_) (fun c5 => ?_)
          · have ht := it_p c5 ht
            refine lv_iload_n hx hb dX4_firstFault_32 rfl (lv_at hl 2 rfl) ?_
            refine lv_aload_n hx hb dX4_firstFault_33 rfl (lv_at hl 1 rfl) ?_
            refine lv_iload_n hx hb dX4_firstFault_34 rfl (lv_at hl 2 rfl) ?_
            obtain ⟨q6, hq6, ht⟩ := it_b ht
            refine q_ri (va_runV (As := [.int x1]) (rest := [.int x1]) ⟨hx, hb, hml, hown, hts⟩ (kX4_signsOfAct l D cI cZ cO d0 S0 x1 q6 hq6) (cwV 1 hts gX4_firstFault_X4_signsOfAct rfl rfl rfl (by decide +kernel) ⟨Nat.le_of_ble_eq_true rfl, Nat.le_of_ble_eq_true rfl⟩) (q_rV (As := [.int x1]) hE hP (q0 := 0) (ci := 4) rfl rfl) rfl rfl hl.1 rfl (lv_room (Nat.le_of_ble_eq_true rfl)) dX4_firstFault_35 ⟨Nat.le_of_ble_eq_true rfl, Nat.le_of_ble_eq_true rfl⟩) (fun b7 => ?_)
            refine lv_iadd hx hb dX4_firstFault_38 ?_
            refine lv_istore_n (lv' := [(1, .int (x1 + q6)), (3, .int q3), (0, .ref (d0 0)), (2, .int x2)]) hx hb dX4_firstFault_39 rfl hl (by decide) rfl (fun ls hl => ?_)
            refine lv_iinc (v := x2 + 1) (lv' := [(2, .int (x2 + 1)), (1, .int (x1 + q6)), (3, .int q3), (0, .ref (d0 0))]) hx hb dX4_firstFault_40 hl (k := 3) rfl rfl (by decide) rfl (fun ls hl => ?_)
            refine lv_goto (tgt := 4) hx hb dX4_firstFault_43 (by decide) ?_
            exact ih4 (x1 + q6) (x2 + 1) ls (lv_sub hl [3, 1, 0] rfl) ht
          · have ht := it_n c5 ht
            refine lv_iload_n hx hb dX4_firstFault_30 rfl (lv_at hl 0 rfl) ?_
            subst hQ
            have ht := Option.some.inj ht
            exact W.iret (v := q3) hx hb hr (fun t e1 hW => ⟨_, rfl, ⟨ht, trivial⟩, e1⟩) (fun q h => absurd h List.not_mem_nil) dX4_firstFault_31
  refine lv_iconst (v := 0) hx hb dX4_firstFault_0 (by decide) ?_
  refine lv_istore_n (lv' := [(1, .int 0), (0, .ref (d0 0))]) hx hb dX4_firstFault_1 rfl hl (by decide) rfl (fun ls hl => ?_)
  refine lv_iconst (v := 0) hx hb dX4_firstFault_2 (by decide) ?_
  refine lv_istore_n (lv' := [(2, .int 0), (1, .int 0), (0, .ref (d0 0))]) hx hb dX4_firstFault_3 rfl hl (by decide) rfl (fun ls hl => ?_)
  exact L4 5000 0 0 ls (lv_sub hl [2, 1, 0] rfl) ht
abbrev rmX5_ofPerson : Room := { frames := 0, cells := 0, slots := 0, locals := 0 }
set_option maxHeartbeats 4000000 in
set_option maxRecDepth 100000 in
theorem kX5_ofPerson (l : Launch) (D : va_G) (cI cZ cO : ClassId) (d0 : Nat → Nat) (S0 : St) (p0 : Int32) (p1 : Int32) (tg : Int32) (ht : xX5_ofPerson S0 p0 p1 = some tg) : Met l yX5_ofPerson wsX5_ofPerson rmX5_ofPerson (q_PR D cI cZ cO [.ref (d0 0), .int p0, .int p1] (wg5 cI cZ d0 S0)) (vp_Si (fun x => x = tg ∧ True)) 0 0 (fun _ => False) := by
  refine Met.ofW (cc := cX5_ofPerson) (maxL := 3) (ret := (some .int)) (by decide) rfl ?_
  intro p e s m args below meth c s₁ B hml hv
  obtain ⟨rfl, hE, hP⟩ := hv
  have hx := B.exec
  have hb := B.bytes
  have hr := B.returns
  have hts := atoms_spec (ws := wsX5_ofPerson) B.pre
  have hown : s.vm.findClass RX5 = some m.cls := findClass_of_methodNamed B.named
  have hlocks := B.notSynchronized
  have hi5 : ∀ w ∈ u_ws RX5 TX5 11, w ∈ wsX5_ofPerson := by decide +kernel
  have hw0 := hts (.fieldLink RX5 9 "HailNames$Plain" "count" "[I") (by decide +kernel)
  have hw1 := hts (.fieldLink RX5 15 "HailNames$Plain" "noted" "[I") (by decide +kernel)
  have hw2 := hts (.fieldLink RX5 18 "HailNames$Plain" "cell" "[I") (by decide +kernel)
  have hw3 := hts (.fieldLink RX5 21 "HailNames$Plain" "size" "[I") (by decide +kernel)
  have hw4 := hts (.fieldLink RX5 24 "HailNames$Plain" "figure" "[I") (by decide +kernel)
  have hl := lv_entry ([.ref (d0 0), .int p0, .int p1]) (n := 3) (Nat.le_of_ble_eq_true rfl)
  rw [lg_entry_eq]
  generalize (lg_sl ([.ref (d0 0), .int p0, .int p1]) ++ List.replicate (3 - (lg_sl ([.ref (d0 0), .int p0, .int p1])).length) Slot.unset).toArray = ls at hl ⊢
  have hl : lv_has ls 3 [(0, .ref (d0 0)), (1, .int p0), (2, .int p1)] := hl
  have ht := (xX5_ofPerson_s S0 p0 p1).symm.trans ht
  refine lv_iload_n hx hb dX5_ofPerson_0 rfl (lv_at hl 2 rfl) ?_
  by_cases c1 : p1 = 0
  · have ht := it_p c1 ht
    refine lv_tableIn (tgt := 32) hx hb dX5_ofPerson_1 (by rw [c1]; decide) (by rw [c1]; decide) (by rw [c1]; rfl) (by decide) ?_
    refine lv_aload_n hx hb dX5_ofPerson_32 rfl (lv_at hl 0 rfl) ?_
    refine va_get (D := D) (ci := 5) (v := .ref (d0 1)) (C := RX5) (T := TX5) (N := 11) hx hb hts hi5 hown hE.1 hP 0 rfl rfl 0 (by decide) hw0 (fun _ h9 => h9) rfl dX5_ofPerson_33 ?_
    refine lv_iload_n hx hb dX5_ofPerson_36 rfl (lv_at hl 1 rfl) ?_
    obtain ⟨g2, ht⟩ := it_g ht
    refine va_iald hx hb hE.1 hP 1 0 rfl rfl (q_in g2) dX5_ofPerson_37 ?_
    have ht := Option.some.inj ht
    exact W.iret (v := S0 0 p0.toNatClampNeg) hx hb hr (fun t e1 hW => ⟨_, rfl, ⟨ht, trivial⟩, e1⟩) (fun q h => absurd h List.not_mem_nil) dX5_ofPerson_38
  have ht := it_n c1 ht
  by_cases c3 : p1 = 1
  · have ht := it_p c3 ht
    refine lv_tableIn (tgt := 39) hx hb dX5_ofPerson_1 (by rw [c3]; decide) (by rw [c3]; decide) (by rw [c3]; rfl) (by decide) ?_
    refine lv_aload_n hx hb dX5_ofPerson_39 rfl (lv_at hl 0 rfl) ?_
    refine va_get (D := D) (ci := 5) (v := .ref (d0 2)) (C := RX5) (T := TX5) (N := 11) hx hb hts hi5 hown hE.1 hP 0 rfl rfl 1 (by decide) hw1 (fun _ h9 => h9) rfl dX5_ofPerson_40 ?_
    refine lv_iload_n hx hb dX5_ofPerson_43 rfl (lv_at hl 1 rfl) ?_
    obtain ⟨g4, ht⟩ := it_g ht
    refine va_iald hx hb hE.1 hP 2 0 rfl rfl (q_in g4) dX5_ofPerson_44 ?_
    have ht := Option.some.inj ht
    exact W.iret (v := S0 1 p0.toNatClampNeg) hx hb hr (fun t e1 hW => ⟨_, rfl, ⟨ht, trivial⟩, e1⟩) (fun q h => absurd h List.not_mem_nil) dX5_ofPerson_45
  have ht := it_n c3 ht
  by_cases c5 : p1 = 2
  · have ht := it_p c5 ht
    refine lv_tableIn (tgt := 46) hx hb dX5_ofPerson_1 (by rw [c5]; decide) (by rw [c5]; decide) (by rw [c5]; rfl) (by decide) ?_
    refine lv_aload_n hx hb dX5_ofPerson_46 rfl (lv_at hl 0 rfl) ?_
    refine va_get (D := D) (ci := 5) (v := .ref (d0 3)) (C := RX5) (T := TX5) (N := 11) hx hb hts hi5 hown hE.1 hP 0 rfl rfl 2 (by decide) hw2 (fun _ h9 => h9) rfl dX5_ofPerson_47 ?_
    refine lv_iload_n hx hb dX5_ofPerson_50 rfl (lv_at hl 1 rfl) ?_
    obtain ⟨g6, ht⟩ := it_g ht
    refine va_iald hx hb hE.1 hP 3 0 rfl rfl (q_in g6) dX5_ofPerson_51 ?_
    have ht := Option.some.inj ht
    exact W.iret (v := S0 2 p0.toNatClampNeg) hx hb hr (fun t e1 hW => ⟨_, rfl, ⟨ht, trivial⟩, e1⟩) (fun q h => absurd h List.not_mem_nil) dX5_ofPerson_52
  have ht := it_n c5 ht
  by_cases c7 : p1 = 3
  · have ht := it_p c7 ht
    refine lv_tableIn (tgt := 53) hx hb dX5_ofPerson_1 (by rw [c7]; decide) (by rw [c7]; decide) (by rw [c7]; rfl) (by decide) ?_
    refine lv_aload_n hx hb dX5_ofPerson_53 rfl (lv_at hl 0 rfl) ?_
    refine va_get (D := D) (ci := 5) (v := .ref (d0 4)) (C := RX5) (T := TX5) (N := 11) hx hb hts hi5 hown hE.1 hP 0 rfl rfl 3 (by decide) hw3 (fun _ h9 => h9) rfl dX5_ofPerson_54 ?_
    refine lv_iload_n hx hb dX5_ofPerson_57 rfl (lv_at hl 1 rfl) ?_
    obtain ⟨g8, ht⟩ := it_g ht
    refine va_iald hx hb hE.1 hP 4 0 rfl rfl (q_in g8) dX5_ofPerson_58 ?_
    have ht := Option.some.inj ht
    exact W.iret (v := S0 3 p0.toNatClampNeg) hx hb hr (fun t e1 hW => ⟨_, rfl, ⟨ht, trivial⟩, e1⟩) (fun q h => absurd h List.not_mem_nil) dX5_ofPerson_59
  have ht := it_n c7 ht
  refine lv_tableOut (tgt := 60) hx hb dX5_ofPerson_1 (by have n0 := lv_neT c1 (show (0 : Int32).toInt = 0 by decide); have n1 := lv_neT c3 (show (1 : Int32).toInt = 1 by decide); have n2 := lv_neT c5 (show (2 : Int32).toInt = 2 by decide); have n3 := lv_neT c7 (show (3 : Int32).toInt = 3 by decide); omega) (by decide) ?_
  refine lv_aload_n hx hb dX5_ofPerson_60 rfl (lv_at hl 0 rfl) ?_
  refine va_get (D := D) (ci := 5) (v := .ref (d0 5)) (C := RX5) (T := TX5) (N := 11) hx hb hts hi5 hown hE.1 hP 0 rfl rfl 4 (by decide) hw4 (fun _ h9 => h9) rfl dX5_ofPerson_61 ?_
  refine lv_iload_n hx hb dX5_ofPerson_64 rfl (lv_at hl 1 rfl) ?_
  obtain ⟨g9, ht⟩ := it_g ht
  refine va_iald hx hb hE.1 hP 5 0 rfl rfl (q_in g9) dX5_ofPerson_65 ?_
  have ht := Option.some.inj ht
  exact W.iret (v := S0 4 p0.toNatClampNeg) hx hb hr (fun t e1 hW => ⟨_, rfl, ⟨ht, trivial⟩, e1⟩) (fun q h => absurd h List.not_mem_nil) dX5_ofPerson_66
abbrev rmX5_ofReader : Room := { frames := 1, cells := 0, slots := 0, locals := 21 }
set_option maxHeartbeats 4000000 in
set_option maxRecDepth 100000 in
theorem kX5_ofReader (l : Launch) (D : va_G) (cI cZ cO : ClassId) (d0 : Nat → Nat) (S0 : St) (p0 : Int32) (p1 : Int32) (tg : Int32) (ht : xX5_ofReader S0 p0 p1 = some tg) : Met l yX5_ofReader wsX5_ofReader rmX5_ofReader (q_PR D cI cZ cO [.ref (d0 0), .int p0, .int p1] (wg5 cI cZ d0 S0)) (vp_Si (fun x => x = tg ∧ True)) 0 0 (fun _ => False) := by
  refine Met.ofW (cc := cX5_ofReader) (maxL := 3) (ret := (some .int)) (by decide) rfl ?_
  intro p e s m args below meth c s₁ B hml hv
  obtain ⟨rfl, hE, hP⟩ := hv
  have hx := B.exec
  have hb := B.bytes
  have hr := B.returns
  have hts := atoms_spec (ws := wsX5_ofReader) B.pre
  have hown : s.vm.findClass RX5 = some m.cls := findClass_of_methodNamed B.named
  have hlocks := B.notSynchronized
  have hi5 : ∀ w ∈ u_ws RX5 TX5 11, w ∈ wsX5_ofReader := by decide +kernel
  have hw0 := hts (.fieldLink RX5 27 "HailNames$Plain" "place" "[I") (by decide +kernel)
  have hw1 := hts (.fieldLink RX5 30 "HailNames$Plain" "stunned" "[I") (by decide +kernel)
  have hw2 := hts (.fieldLink RX5 33 "HailNames$Plain" "stonesRead" "[I") (by decide +kernel)
  have hl := lv_entry ([.ref (d0 0), .int p0, .int p1]) (n := 3) (Nat.le_of_ble_eq_true rfl)
  rw [lg_entry_eq]
  generalize (lg_sl ([.ref (d0 0), .int p0, .int p1]) ++ List.replicate (3 - (lg_sl ([.ref (d0 0), .int p0, .int p1])).length) Slot.unset).toArray = ls at hl ⊢
  have hl : lv_has ls 3 [(0, .ref (d0 0)), (1, .int p0), (2, .int p1)] := hl
  have ht := (xX5_ofReader_s S0 p0 p1).symm.trans ht
  refine lv_iload_n hx hb dX5_ofReader_0 rfl (lv_at hl 2 rfl) ?_
  by_cases c1 : p1 = 0
  · have ht := it_p c1 ht
    refine lv_tableIn (tgt := 28) hx hb dX5_ofReader_1 (by rw [c1]; decide) (by rw [c1]; decide) (by rw [c1]; rfl) (by decide) ?_
    refine lv_aload_n hx hb dX5_ofReader_28 rfl (lv_at hl 0 rfl) ?_
    refine va_get (D := D) (ci := 5) (v := .ref (d0 6)) (C := RX5) (T := TX5) (N := 11) hx hb hts hi5 hown hE.1 hP 0 rfl rfl 5 (by decide) hw0 (fun _ h9 => h9) rfl dX5_ofReader_29 ?_
    refine lv_iload_n hx hb dX5_ofReader_32 rfl (lv_at hl 1 rfl) ?_
    obtain ⟨g2, ht⟩ := it_g ht
    refine va_iald hx hb hE.1 hP 6 0 rfl rfl (q_in g2) dX5_ofReader_33 ?_
    have ht := Option.some.inj ht
    exact W.iret (v := S0 5 p0.toNatClampNeg) hx hb hr (fun t e1 hW => ⟨_, rfl, ⟨ht, trivial⟩, e1⟩) (fun q h => absurd h List.not_mem_nil) dX5_ofReader_34
  have ht := it_n c1 ht
  by_cases c3 : p1 = 1
  · have ht := it_p c3 ht
    refine lv_tableIn (tgt := 35) hx hb dX5_ofReader_1 (by rw [c3]; decide) (by rw [c3]; decide) (by rw [c3]; rfl) (by decide) ?_
    refine lv_aload_n hx hb dX5_ofReader_35 rfl (lv_at hl 0 rfl) ?_
    refine va_get (D := D) (ci := 5) (v := .ref (d0 7)) (C := RX5) (T := TX5) (N := 11) hx hb hts hi5 hown hE.1 hP 0 rfl rfl 6 (by decide) hw1 (fun _ h9 => h9) rfl dX5_ofReader_36 ?_
    refine lv_iload_n hx hb dX5_ofReader_39 rfl (lv_at hl 1 rfl) ?_
    obtain ⟨g4, ht⟩ := it_g ht
    refine va_iald hx hb hE.1 hP 7 0 rfl rfl (q_in g4) dX5_ofReader_40 ?_
    have ht := Option.some.inj ht
    exact W.iret (v := S0 6 p0.toNatClampNeg) hx hb hr (fun t e1 hW => ⟨_, rfl, ⟨ht, trivial⟩, e1⟩) (fun q h => absurd h List.not_mem_nil) dX5_ofReader_41
  have ht := it_n c3 ht
  by_cases c5 : p1 = 2
  · have ht := it_p c5 ht
    refine lv_tableIn (tgt := 42) hx hb dX5_ofReader_1 (by rw [c5]; decide) (by rw [c5]; decide) (by rw [c5]; rfl) (by decide) ?_
    refine lv_aload_n hx hb dX5_ofReader_42 rfl (lv_at hl 0 rfl) ?_
    refine va_get (D := D) (ci := 5) (v := .ref (d0 8)) (C := RX5) (T := TX5) (N := 11) hx hb hts hi5 hown hE.1 hP 0 rfl rfl 7 (by decide) hw2 (fun _ h9 => h9) rfl dX5_ofReader_43 ?_
    refine lv_iload_n hx hb dX5_ofReader_46 rfl (lv_at hl 1 rfl) ?_
    obtain ⟨g6, ht⟩ := it_g ht
    refine va_iald hx hb hE.1 hP 8 0 rfl rfl (q_in g6) dX5_ofReader_47 ?_
    have ht := Option.some.inj ht
    exact W.iret (v := S0 7 p0.toNatClampNeg) hx hb hr (fun t e1 hW => ⟨_, rfl, ⟨ht, trivial⟩, e1⟩) (fun q h => absurd h List.not_mem_nil) dX5_ofReader_48
  have ht := it_n c5 ht
  refine lv_tableOut (tgt := 49) hx hb dX5_ofReader_1 (by have n0 := lv_neT c1 (show (0 : Int32).toInt = 0 by decide); have n1 := lv_neT c3 (show (1 : Int32).toInt = 1 by decide); have n2 := lv_neT c5 (show (2 : Int32).toInt = 2 by decide); omega) (by decide) ?_
  refine lv_aload_n hx hb dX5_ofReader_49 rfl (lv_at hl 0 rfl) ?_
  refine lv_iload_n hx hb dX5_ofReader_50 rfl (lv_at hl 1 rfl) ?_
  obtain ⟨q7, hq7, ht⟩ := it_b ht
  refine q_ri (va_runV (As := [.int p0]) (rest := []) ⟨hx, hb, hml, hown, hts⟩ (kX5_isFree l D cI cZ cO d0 S0 p0 q7 hq7) (cwV 1 hts gX5_ofReader_X5_isFree rfl rfl rfl (by decide +kernel) ⟨Nat.le_of_ble_eq_true rfl, Nat.le_of_ble_eq_true rfl⟩) (q_rV (As := [.int p0]) hE hP (q0 := 0) (ci := 5) rfl rfl) rfl rfl hl.1 rfl (lv_room (Nat.le_of_ble_eq_true rfl)) dX5_ofReader_51 ⟨Nat.le_of_ble_eq_true rfl, Nat.le_of_ble_eq_true rfl⟩) (fun b8 => ?_)
  refine lv_if_eq (tgt := 61) hx hb dX5_ofReader_54 (by decide) (fun c9 => ?_) (fun c9 => ?_)
  · have ht := it_p c9 ht
    refine lv_iconst (v := 0) hx hb dX5_ofReader_61 (by decide) ?_
    have ht := Option.some.inj ht
    exact W.iret (v := 0) hx hb hr (fun t e1 hW => ⟨_, rfl, ⟨ht, trivial⟩, e1⟩) (fun q h => absurd h List.not_mem_nil) dX5_ofReader_62
  · have ht := it_n c9 ht
    refine lv_iconst (v := 1) hx hb dX5_ofReader_57 (by decide) ?_
    refine lv_goto (tgt := 62) hx hb dX5_ofReader_58 (by decide) ?_
    have ht := Option.some.inj ht
    exact W.iret (v := 1) hx hb hr (fun t e1 hW => ⟨_, rfl, ⟨ht, trivial⟩, e1⟩) (fun q h => absurd h List.not_mem_nil) dX5_ofReader_62
abbrev rmX5_lyingStones : Room := { frames := 1, cells := 0, slots := 0, locals := 21 }
set_option maxHeartbeats 4000000 in
set_option maxRecDepth 100000 in
theorem kX5_lyingStones (l : Launch) (D : va_G) (cI cZ cO : ClassId) (d0 : Nat → Nat) (S0 : St) (tg : Int32) (ht : xX5_lyingStones S0 = some tg) : Met l yX5_lyingStones wsX5_lyingStones rmX5_lyingStones (q_PR D cI cZ cO [.ref (d0 0)] (wg5 cI cZ d0 S0)) (vp_Si (fun x => x = tg ∧ True)) 0 0 (fun _ => False) := by
  refine Met.ofW (cc := cX5_lyingStones) (maxL := 3) (ret := (some .int)) (by decide) rfl ?_
  intro p e s m args below meth c s₁ B hml hv
  obtain ⟨rfl, hE, hP⟩ := hv
  have hx := B.exec
  have hb := B.bytes
  have hr := B.returns
  have hts := atoms_spec (ws := wsX5_lyingStones) B.pre
  have hown : s.vm.findClass RX5 = some m.cls := findClass_of_methodNamed B.named
  have hlocks := B.notSynchronized
  have hl := lv_entry ([.ref (d0 0)]) (n := 3) (Nat.le_of_ble_eq_true rfl)
  rw [lg_entry_eq]
  generalize (lg_sl ([.ref (d0 0)]) ++ List.replicate (3 - (lg_sl ([.ref (d0 0)])).length) Slot.unset).toArray = ls at hl ⊢
  have hl : lv_has ls 3 [(0, .ref (d0 0))] := hl
  have ht := (xX5_lyingStones_s S0).symm.trans ht
  obtain ⟨Q, hQ⟩ : ∃ Q, Q = MQ below (vp_Si (fun x => x = tg ∧ True)) ([.ref (d0 0)] : List Value).toArray s 0 0 (fun _ => False) := ⟨_, rfl⟩
  rw [← hQ]
  have L4 : ∀ (n : Nat) (x1 : Int32) (x2 : Int32) (ls : Array Slot) (_ : lv_has ls 3 [(0, .ref (d0 0)), (1, .int x1), (2, .int x2)]) (_ : xX5_lyingStones_h4 S0 n x1 x2 = some tg), W p l e (headSpec wsX5_lyingStones rmX5_lyingStones).room s m ([.ref (d0 0)] : List Value).toArray below meth c s.heap [] 0 0 Q (F0 m 4 ls []) := by
    intro n
    induction n with
    | zero =>
      intro x1 x2 ls hl ht
      exact it_z ht
    | succ n4 ih4 =>
      intro x1 x2 ls hl ht
      have ht := (xX5_lyingStones_h4_s S0 n4 x1 x2).symm.trans ht
      refine lv_iload_n hx hb dX5_lyingStones_4 rfl (lv_at hl 2 rfl) ?_
      refine lv_bipush (v := 8) hx hb dX5_lyingStones_5 (by decide) ?_
      refine lv_icmp_ge (tgt := 30) hx hb dX5_lyingStones_7 (by decide) (fun c1 => ?_) (fun c1 => ?_)
      · have ht := it_p c1 ht
        refine lv_iload_n hx hb dX5_lyingStones_30 rfl (lv_at hl 1 rfl) ?_
        subst hQ
        have ht := Option.some.inj ht
        exact W.iret (v := x1) hx hb hr (fun t e1 hW => ⟨_, rfl, ⟨ht, trivial⟩, e1⟩) (fun q h => absurd h List.not_mem_nil) dX5_lyingStones_31
      · have ht := it_n c1 ht
        refine lv_aload_n hx hb dX5_lyingStones_10 rfl (lv_at hl 0 rfl) ?_
        refine lv_iload_n hx hb dX5_lyingStones_11 rfl (lv_at hl 2 rfl) ?_
        obtain ⟨q2, hq2, ht⟩ := it_b ht
        refine q_ri (va_runV (As := [.int x2]) (rest := []) ⟨hx, hb, hml, hown, hts⟩ (kX5_lies l D cI cZ cO d0 S0 x2 q2 hq2) (cwV 1 hts gX5_lyingStones_X5_lies rfl rfl rfl (by decide +kernel) ⟨Nat.le_of_ble_eq_true rfl, Nat.le_of_ble_eq_true rfl⟩) (q_rV (As := [.int x2]) hE hP (q0 := 0) (ci := 5) rfl rfl) rfl rfl hl.1 rfl (lv_room (Nat.le_of_ble_eq_true rfl)) dX5_lyingStones_12 ⟨Nat.le_of_ble_eq_true rfl, Nat.le_of_ble_eq_true rfl⟩) (fun b3 => ?_)
        refine lv_if_eq (tgt := 24) hx hb dX5_lyingStones_15 (by decide) (fun c4 => ?_) (fun c4 => ?_)
        · have ht := it_p c4 ht
          refine lv_iinc (v := x2 + 1) (lv' := [(2, .int (x2 + 1)), (0, .ref (d0 0)), (1, .int x1)]) hx hb dX5_lyingStones_24 hl (k := 2) rfl rfl (by decide) rfl (fun ls hl => ?_)
          refine lv_goto (tgt := 4) hx hb dX5_lyingStones_27 (by decide) ?_
          exact ih4 x1 (x2 + 1) ls (lv_sub hl [1, 2, 0] rfl) ht
        · have ht := it_n c4 ht
          refine lv_iload_n hx hb dX5_lyingStones_18 rfl (lv_at hl 1 rfl) ?_
          refine lv_iconst (v := 1) hx hb dX5_lyingStones_19 (by decide) ?_
          refine lv_iload_n hx hb dX5_lyingStones_20 rfl (lv_at hl 2 rfl) ?_
          refine q_ishl hx hb dX5_lyingStones_21 ?_
          refine lv_ior hx hb dX5_lyingStones_22 ?_
          refine lv_istore_n (lv' := [(1, .int (x1 ||| (q_shl 1 x2))), (0, .ref (d0 0)), (2, .int x2)]) hx hb dX5_lyingStones_23 rfl hl (by decide) rfl (fun ls hl => ?_)
          refine lv_iinc (v := x2 + 1) (lv' := [(2, .int (x2 + 1)), (1, .int (x1 ||| (q_shl 1 x2))), (0, .ref (d0 0))]) hx hb dX5_lyingStones_24 hl (k := 2) rfl rfl (by decide) rfl (fun ls hl => ?_)
          refine lv_goto (tgt := 4) hx hb dX5_lyingStones_27 (by decide) ?_
          exact ih4 (x1 ||| (q_shl 1 x2)) (x2 + 1) ls (lv_sub hl [2, 1, 0] rfl) ht
  refine lv_iconst (v := 0) hx hb dX5_lyingStones_0 (by decide) ?_
  refine lv_istore_n (lv' := [(1, .int 0), (0, .ref (d0 0))]) hx hb dX5_lyingStones_1 rfl hl (by decide) rfl (fun ls hl => ?_)
  refine lv_iconst (v := 0) hx hb dX5_lyingStones_2 (by decide) ?_
  refine lv_istore_n (lv' := [(2, .int 0), (1, .int 0), (0, .ref (d0 0))]) hx hb dX5_lyingStones_3 rfl hl (by decide) rfl (fun ls hl => ?_)
  exact L4 5000 0 0 ls (lv_sub hl [2, 1, 0] rfl) ht
abbrev rmX5_freeReaders : Room := { frames := 1, cells := 0, slots := 0, locals := 21 }
set_option maxHeartbeats 4000000 in
set_option maxRecDepth 100000 in
theorem kX5_freeReaders (l : Launch) (D : va_G) (cI cZ cO : ClassId) (d0 : Nat → Nat) (S0 : St) (tg : Int32) (ht : xX5_freeReaders S0 = some tg) : Met l yX5_freeReaders wsX5_freeReaders rmX5_freeReaders (q_PR D cI cZ cO [.ref (d0 0)] (wg5 cI cZ d0 S0)) (vp_Si (fun x => x = tg ∧ True)) 0 0 (fun _ => False) := by
  refine Met.ofW (cc := cX5_freeReaders) (maxL := 3) (ret := (some .int)) (by decide) rfl ?_
  intro p e s m args below meth c s₁ B hml hv
  obtain ⟨rfl, hE, hP⟩ := hv
  have hx := B.exec
  have hb := B.bytes
  have hr := B.returns
  have hts := atoms_spec (ws := wsX5_freeReaders) B.pre
  have hown : s.vm.findClass RX5 = some m.cls := findClass_of_methodNamed B.named
  have hlocks := B.notSynchronized
  have hl := lv_entry ([.ref (d0 0)]) (n := 3) (Nat.le_of_ble_eq_true rfl)
  rw [lg_entry_eq]
  generalize (lg_sl ([.ref (d0 0)]) ++ List.replicate (3 - (lg_sl ([.ref (d0 0)])).length) Slot.unset).toArray = ls at hl ⊢
  have hl : lv_has ls 3 [(0, .ref (d0 0))] := hl
  have ht := (xX5_freeReaders_s S0).symm.trans ht
  obtain ⟨Q, hQ⟩ : ∃ Q, Q = MQ below (vp_Si (fun x => x = tg ∧ True)) ([.ref (d0 0)] : List Value).toArray s 0 0 (fun _ => False) := ⟨_, rfl⟩
  rw [← hQ]
  have L4 : ∀ (n : Nat) (x1 : Int32) (x2 : Int32) (ls : Array Slot) (_ : lv_has ls 3 [(0, .ref (d0 0)), (1, .int x1), (2, .int x2)]) (_ : xX5_freeReaders_h4 S0 n x1 x2 = some tg), W p l e (headSpec wsX5_freeReaders rmX5_freeReaders).room s m ([.ref (d0 0)] : List Value).toArray below meth c s.heap [] 0 0 Q (F0 m 4 ls []) := by
    intro n
    induction n with
    | zero =>
      intro x1 x2 ls hl ht
      exact it_z ht
    | succ n4 ih4 =>
      intro x1 x2 ls hl ht
      have ht := (xX5_freeReaders_h4_s S0 n4 x1 x2).symm.trans ht
      refine lv_iload_n hx hb dX5_freeReaders_4 rfl (lv_at hl 2 rfl) ?_
      refine lv_iconst (v := 4) hx hb dX5_freeReaders_5 (by decide) ?_
      refine lv_icmp_ge (tgt := 29) hx hb dX5_freeReaders_6 (by decide) (fun c1 => ?_) (fun c1 => ?_)
      · have ht := it_p c1 ht
        refine lv_iload_n hx hb dX5_freeReaders_29 rfl (lv_at hl 1 rfl) ?_
        subst hQ
        have ht := Option.some.inj ht
        exact W.iret (v := x1) hx hb hr (fun t e1 hW => ⟨_, rfl, ⟨ht, trivial⟩, e1⟩) (fun q h => absurd h List.not_mem_nil) dX5_freeReaders_30
      · have ht := it_n c1 ht
        refine lv_aload_n hx hb dX5_freeReaders_9 rfl (lv_at hl 0 rfl) ?_
        refine lv_iload_n hx hb dX5_freeReaders_10 rfl (lv_at hl 2 rfl) ?_
        obtain ⟨q2, hq2, ht⟩ := it_b ht
        refine q_ri (va_runV (As := [.int x2]) (rest := []) ⟨hx, hb, hml, hown, hts⟩ (kX5_isFree l D cI cZ cO d0 S0 x2 q2 hq2) (cwV 1 hts gX5_freeReaders_X5_isFree rfl rfl rfl (by decide +kernel) ⟨Nat.le_of_ble_eq_true rfl, Nat.le_of_ble_eq_true rfl⟩) (q_rV (As := [.int x2]) hE hP (q0 := 0) (ci := 5) rfl rfl) rfl rfl hl.1 rfl (lv_room (Nat.le_of_ble_eq_true rfl)) dX5_freeReaders_11 ⟨Nat.le_of_ble_eq_true rfl, Nat.le_of_ble_eq_true rfl⟩) (fun b3 => ?_)
        refine lv_if_eq (tgt := 23) hx hb dX5_freeReaders_14 (by decide) (fun c4 => ?_) (fun c4 => ?_)
        · have ht := it_p c4 ht
          refine lv_iinc (v := x2 + 1) (lv' := [(2, .int (x2 + 1)), (0, .ref (d0 0)), (1, .int x1)]) hx hb dX5_freeReaders_23 hl (k := 2) rfl rfl (by decide) rfl (fun ls hl => ?_)
          refine lv_goto (tgt := 4) hx hb dX5_freeReaders_26 (by decide) ?_
          exact ih4 x1 (x2 + 1) ls (lv_sub hl [1, 2, 0] rfl) ht
        · have ht := it_n c4 ht
          refine lv_iload_n hx hb dX5_freeReaders_17 rfl (lv_at hl 1 rfl) ?_
          refine lv_iconst (v := 1) hx hb dX5_freeReaders_18 (by decide) ?_
          refine lv_iload_n hx hb dX5_freeReaders_19 rfl (lv_at hl 2 rfl) ?_
          refine q_ishl hx hb dX5_freeReaders_20 ?_
          refine lv_ior hx hb dX5_freeReaders_21 ?_
          refine lv_istore_n (lv' := [(1, .int (x1 ||| (q_shl 1 x2))), (0, .ref (d0 0)), (2, .int x2)]) hx hb dX5_freeReaders_22 rfl hl (by decide) rfl (fun ls hl => ?_)
          refine lv_iinc (v := x2 + 1) (lv' := [(2, .int (x2 + 1)), (1, .int (x1 ||| (q_shl 1 x2))), (0, .ref (d0 0))]) hx hb dX5_freeReaders_23 hl (k := 2) rfl rfl (by decide) rfl (fun ls hl => ?_)
          refine lv_goto (tgt := 4) hx hb dX5_freeReaders_26 (by decide) ?_
          exact ih4 (x1 ||| (q_shl 1 x2)) (x2 + 1) ls (lv_sub hl [2, 1, 0] rfl) ht
  refine lv_iconst (v := 0) hx hb dX5_freeReaders_0 (by decide) ?_
  refine lv_istore_n (lv' := [(1, .int 0), (0, .ref (d0 0))]) hx hb dX5_freeReaders_1 rfl hl (by decide) rfl (fun ls hl => ?_)
  refine lv_iconst (v := 0) hx hb dX5_freeReaders_2 (by decide) ?_
  refine lv_istore_n (lv' := [(2, .int 0), (1, .int 0), (0, .ref (d0 0))]) hx hb dX5_freeReaders_3 rfl hl (by decide) rfl (fun ls hl => ?_)
  exact L4 5000 0 0 ls (lv_sub hl [2, 1, 0] rfl) ht
abbrev rmX5_figuresOf : Room := { frames := 0, cells := 0, slots := 0, locals := 0 }
set_option maxHeartbeats 4000000 in
set_option maxRecDepth 100000 in
theorem kX5_figuresOf (l : Launch) (D : va_G) (cI cZ cO : ClassId) (d0 : Nat → Nat) (S0 : St) (p0 : Int32) (tg : Int32) (ht : xX5_figuresOf S0 p0 = some tg) : Met l yX5_figuresOf wsX5_figuresOf rmX5_figuresOf (q_PR D cI cZ cO [.ref (d0 0), .int p0] (wg5 cI cZ d0 S0)) (vp_Si (fun x => x = tg ∧ True)) 0 0 (fun _ => False) := by
  refine Met.ofW (cc := cX5_figuresOf) (maxL := 4) (ret := (some .int)) (by decide) rfl ?_
  intro p e s m args below meth c s₁ B hml hv
  obtain ⟨rfl, hE, hP⟩ := hv
  have hx := B.exec
  have hb := B.bytes
  have hr := B.returns
  have hts := atoms_spec (ws := wsX5_figuresOf) B.pre
  have hown : s.vm.findClass RX5 = some m.cls := findClass_of_methodNamed B.named
  have hlocks := B.notSynchronized
  have hi5 : ∀ w ∈ u_ws RX5 TX5 11, w ∈ wsX5_figuresOf := by decide +kernel
  have hw0 := hts (.fieldLink RX5 24 "HailNames$Plain" "figure" "[I") (by decide +kernel)
  have hl := lv_entry ([.ref (d0 0), .int p0]) (n := 4) (Nat.le_of_ble_eq_true rfl)
  rw [lg_entry_eq]
  generalize (lg_sl ([.ref (d0 0), .int p0]) ++ List.replicate (4 - (lg_sl ([.ref (d0 0), .int p0])).length) Slot.unset).toArray = ls at hl ⊢
  have hl : lv_has ls 4 [(0, .ref (d0 0)), (1, .int p0)] := hl
  have ht := (xX5_figuresOf_s S0 p0).symm.trans ht
  obtain ⟨Q, hQ⟩ : ∃ Q, Q = MQ below (vp_Si (fun x => x = tg ∧ True)) ([.ref (d0 0), .int p0] : List Value).toArray s 0 0 (fun _ => False) := ⟨_, rfl⟩
  rw [← hQ]
  have L4 : ∀ (n : Nat) (x2 : Int32) (x3 : Int32) (ls : Array Slot) (_ : lv_has ls 4 [(0, .ref (d0 0)), (1, .int p0), (2, .int x2), (3, .int x3)]) (_ : xX5_figuresOf_h4 S0 p0 n x2 x3 = some tg), W p l e (headSpec wsX5_figuresOf rmX5_figuresOf).room s m ([.ref (d0 0), .int p0] : List Value).toArray below meth c s.heap [] 0 0 Q (F0 m 4 ls []) := by
    intro n
    induction n with
    | zero =>
      intro x2 x3 ls hl ht
      exact it_z ht
    | succ n4 ih4 =>
      intro x2 x3 ls hl ht
      have ht := (xX5_figuresOf_h4_s S0 p0 n4 x2 x3).symm.trans ht
      refine lv_iload_n hx hb dX5_figuresOf_4 rfl (lv_at hl 3 rfl) ?_
      refine lv_bipush (v := 8) hx hb dX5_figuresOf_5 (by decide) ?_
      refine lv_icmp_ge (tgt := 34) hx hb dX5_figuresOf_7 (by decide) (fun c1 => ?_) (fun c1 => ?_)
      · have ht := it_p c1 ht
        refine lv_iload_n hx hb dX5_figuresOf_34 rfl (lv_at hl 2 rfl) ?_
        subst hQ
        have ht := Option.some.inj ht
        exact W.iret (v := x2) hx hb hr (fun t e1 hW => ⟨_, rfl, ⟨ht, trivial⟩, e1⟩) (fun q h => absurd h List.not_mem_nil) dX5_figuresOf_35
      · have ht := it_n c1 ht
        refine lv_iload_n hx hb dX5_figuresOf_10 rfl (lv_at hl 1 rfl) ?_
        refine lv_iload_n hx hb dX5_figuresOf_11 rfl (lv_at hl 3 rfl) ?_
        refine q_ishr hx hb dX5_figuresOf_12 ?_
        refine lv_iconst (v := 1) hx hb dX5_figuresOf_13 (by decide) ?_
        refine lv_iand hx hb dX5_figuresOf_14 ?_
        refine lv_iconst (v := 1) hx hb dX5_figuresOf_15 (by decide) ?_
        refine lv_icmp_ne (tgt := 28) hx hb dX5_figuresOf_16 (by decide) (fun c2 => ?_) (fun c2 => ?_)
        · have ht := it_n c2 ht
          refine lv_iinc (v := x3 + 1) (lv' := [(3, .int (x3 + 1)), (0, .ref (d0 0)), (1, .int p0), (2, .int x2)]) hx hb dX5_figuresOf_28 hl (k := 3) rfl rfl (by decide) rfl (fun ls hl => ?_)
          refine lv_goto (tgt := 4) hx hb dX5_figuresOf_31 (by decide) ?_
          exact ih4 x2 (x3 + 1) ls (lv_sub hl [1, 2, 3, 0] rfl) ht
        · have ht := it_p c2 ht
          refine lv_iload_n hx hb dX5_figuresOf_19 rfl (lv_at hl 2 rfl) ?_
          refine lv_aload_n hx hb dX5_figuresOf_20 rfl (lv_at hl 0 rfl) ?_
          refine va_get (D := D) (ci := 5) (v := .ref (d0 5)) (C := RX5) (T := TX5) (N := 11) hx hb hts hi5 hown hE.1 hP 0 rfl rfl 4 (by decide) hw0 (fun _ h9 => h9) rfl dX5_figuresOf_21 ?_
          refine lv_iload_n hx hb dX5_figuresOf_24 rfl (lv_at hl 3 rfl) ?_
          obtain ⟨g3, ht⟩ := it_g ht
          refine va_iald hx hb hE.1 hP 5 0 rfl rfl (q_in g3) dX5_figuresOf_25 ?_
          refine lv_iadd hx hb dX5_figuresOf_26 ?_
          refine lv_istore_n (lv' := [(2, .int (x2 + (S0 4 x3.toNatClampNeg))), (0, .ref (d0 0)), (1, .int p0), (3, .int x3)]) hx hb dX5_figuresOf_27 rfl hl (by decide) rfl (fun ls hl => ?_)
          refine lv_iinc (v := x3 + 1) (lv' := [(3, .int (x3 + 1)), (2, .int (x2 + (S0 4 x3.toNatClampNeg))), (0, .ref (d0 0)), (1, .int p0)]) hx hb dX5_figuresOf_28 hl (k := 3) rfl rfl (by decide) rfl (fun ls hl => ?_)
          refine lv_goto (tgt := 4) hx hb dX5_figuresOf_31 (by decide) ?_
          exact ih4 (x2 + (S0 4 x3.toNatClampNeg)) (x3 + 1) ls (lv_sub hl [2, 3, 1, 0] rfl) ht
  refine lv_iconst (v := 0) hx hb dX5_figuresOf_0 (by decide) ?_
  refine lv_istore_n (lv' := [(2, .int 0), (0, .ref (d0 0)), (1, .int p0)]) hx hb dX5_figuresOf_1 rfl hl (by decide) rfl (fun ls hl => ?_)
  refine lv_iconst (v := 0) hx hb dX5_figuresOf_2 (by decide) ?_
  refine lv_istore_n (lv' := [(3, .int 0), (2, .int 0), (0, .ref (d0 0)), (1, .int p0)]) hx hb dX5_figuresOf_3 rfl hl (by decide) rfl (fun ls hl => ?_)
  exact L4 5000 0 0 ls (lv_sub hl [2, 3, 1, 0] rfl) ht
abbrev rmX5_figuresAdded : Room := { frames := 2, cells := 0, slots := 0, locals := 43 }
set_option maxHeartbeats 4000000 in
set_option maxRecDepth 100000 in
theorem kX5_figuresAdded (l : Launch) (D : va_G) (cI cZ cO : ClassId) (d0 : Nat → Nat) (S0 : St) (tg : Int32) (ht : xX5_figuresAdded S0 = some tg) : Met l yX5_figuresAdded wsX5_figuresAdded rmX5_figuresAdded (q_PR D cI cZ cO [.ref (d0 0)] (wg5 cI cZ d0 S0)) (vp_Si (fun x => x = tg ∧ True)) 0 0 (fun _ => False) := by
  refine Met.ofW (cc := cX5_figuresAdded) (maxL := 1) (ret := (some .int)) (by decide) rfl ?_
  intro p e s m args below meth c s₁ B hml hv
  obtain ⟨rfl, hE, hP⟩ := hv
  have hx := B.exec
  have hb := B.bytes
  have hr := B.returns
  have hts := atoms_spec (ws := wsX5_figuresAdded) B.pre
  have hown : s.vm.findClass RX5 = some m.cls := findClass_of_methodNamed B.named
  have hlocks := B.notSynchronized
  have hl := lv_entry ([.ref (d0 0)]) (n := 1) (Nat.le_of_ble_eq_true rfl)
  rw [lg_entry_eq]
  generalize (lg_sl ([.ref (d0 0)]) ++ List.replicate (1 - (lg_sl ([.ref (d0 0)])).length) Slot.unset).toArray = ls at hl ⊢
  have hl : lv_has ls 1 [(0, .ref (d0 0))] := hl
  have ht := (xX5_figuresAdded_s S0).symm.trans ht
  refine lv_aload_n hx hb dX5_figuresAdded_0 rfl (lv_at hl 0 rfl) ?_
  refine lv_aload_n hx hb dX5_figuresAdded_1 rfl (lv_at hl 0 rfl) ?_
  obtain ⟨q1, hq1, ht⟩ := it_b ht
  refine q_ri (va_runV (As := []) (rest := [.ref (d0 0)]) ⟨hx, hb, hml, hown, hts⟩ (kX5_lyingStones l D cI cZ cO d0 S0 q1 hq1) (cwV 0 hts gX5_figuresAdded_X5_lyingStones rfl rfl rfl (by decide +kernel) ⟨Nat.le_of_ble_eq_true rfl, Nat.le_of_ble_eq_true rfl⟩) (q_rV (As := []) hE hP (q0 := 0) (ci := 5) rfl rfl) rfl rfl hl.1 rfl (lv_room (Nat.le_of_ble_eq_true rfl)) dX5_figuresAdded_2 ⟨Nat.le_of_ble_eq_true rfl, Nat.le_of_ble_eq_true rfl⟩) (fun b2 => ?_)
  obtain ⟨q3, hq3, ht⟩ := it_b ht
  refine q_ri (va_runV (As := [.int q1]) (rest := []) ⟨hx, hb, hml, hown, hts⟩ (kX5_figuresOf l D cI cZ cO d0 S0 q1 q3 hq3) (cwV 1 hts gX5_figuresAdded_X5_figuresOf rfl rfl rfl (by decide +kernel) ⟨Nat.le_of_ble_eq_true rfl, Nat.le_of_ble_eq_true rfl⟩) (q_rV (As := [.int q1]) hE hP (q0 := 0) (ci := 5) rfl rfl) rfl rfl hl.1 rfl (lv_room (Nat.le_of_ble_eq_true rfl)) dX5_figuresAdded_5 ⟨Nat.le_of_ble_eq_true rfl, Nat.le_of_ble_eq_true rfl⟩) (fun b4 => ?_)
  have ht := Option.some.inj ht
  exact W.iret (v := q3) hx hb hr (fun t e1 hW => ⟨_, rfl, ⟨ht, trivial⟩, e1⟩) (fun q h => absurd h List.not_mem_nil) dX5_figuresAdded_8
abbrev rmX5_notedAdded : Room := { frames := 0, cells := 0, slots := 0, locals := 0 }
set_option maxHeartbeats 4000000 in
set_option maxRecDepth 100000 in
theorem kX5_notedAdded (l : Launch) (D : va_G) (cI cZ cO : ClassId) (d0 : Nat → Nat) (S0 : St) (tg : Int32) (ht : xX5_notedAdded S0 = some tg) : Met l yX5_notedAdded wsX5_notedAdded rmX5_notedAdded (q_PR D cI cZ cO [.ref (d0 0)] (wg5 cI cZ d0 S0)) (vp_Si (fun x => x = tg ∧ True)) 0 0 (fun _ => False) := by
  refine Met.ofW (cc := cX5_notedAdded) (maxL := 3) (ret := (some .int)) (by decide) rfl ?_
  intro p e s m args below meth c s₁ B hml hv
  obtain ⟨rfl, hE, hP⟩ := hv
  have hx := B.exec
  have hb := B.bytes
  have hr := B.returns
  have hts := atoms_spec (ws := wsX5_notedAdded) B.pre
  have hown : s.vm.findClass RX5 = some m.cls := findClass_of_methodNamed B.named
  have hlocks := B.notSynchronized
  have hi5 : ∀ w ∈ u_ws RX5 TX5 11, w ∈ wsX5_notedAdded := by decide +kernel
  have hw0 := hts (.fieldLink RX5 15 "HailNames$Plain" "noted" "[I") (by decide +kernel)
  have hl := lv_entry ([.ref (d0 0)]) (n := 3) (Nat.le_of_ble_eq_true rfl)
  rw [lg_entry_eq]
  generalize (lg_sl ([.ref (d0 0)]) ++ List.replicate (3 - (lg_sl ([.ref (d0 0)])).length) Slot.unset).toArray = ls at hl ⊢
  have hl : lv_has ls 3 [(0, .ref (d0 0))] := hl
  have ht := (xX5_notedAdded_s S0).symm.trans ht
  obtain ⟨Q, hQ⟩ : ∃ Q, Q = MQ below (vp_Si (fun x => x = tg ∧ True)) ([.ref (d0 0)] : List Value).toArray s 0 0 (fun _ => False) := ⟨_, rfl⟩
  rw [← hQ]
  have L4 : ∀ (n : Nat) (x1 : Int32) (x2 : Int32) (ls : Array Slot) (_ : lv_has ls 3 [(0, .ref (d0 0)), (1, .int x1), (2, .int x2)]) (_ : xX5_notedAdded_h4 S0 n x1 x2 = some tg), W p l e (headSpec wsX5_notedAdded rmX5_notedAdded).room s m ([.ref (d0 0)] : List Value).toArray below meth c s.heap [] 0 0 Q (F0 m 4 ls []) := by
    intro n
    induction n with
    | zero =>
      intro x1 x2 ls hl ht
      exact it_z ht
    | succ n4 ih4 =>
      intro x1 x2 ls hl ht
      have ht := (xX5_notedAdded_h4_s S0 n4 x1 x2).symm.trans ht
      refine lv_iload_n hx hb dX5_notedAdded_4 rfl (lv_at hl 2 rfl) ?_
      refine lv_bipush (v := 8) hx hb dX5_notedAdded_5 (by decide) ?_
      refine lv_icmp_ge (tgt := 25) hx hb dX5_notedAdded_7 (by decide) (fun c1 => ?_) (fun c1 => ?_)
      · have ht := it_p c1 ht
        refine lv_iload_n hx hb dX5_notedAdded_25 rfl (lv_at hl 1 rfl) ?_
        subst hQ
        have ht := Option.some.inj ht
        exact W.iret (v := x1) hx hb hr (fun t e1 hW => ⟨_, rfl, ⟨ht, trivial⟩, e1⟩) (fun q h => absurd h List.not_mem_nil) dX5_notedAdded_26
      · have ht := it_n c1 ht
        refine lv_iload_n hx hb dX5_notedAdded_10 rfl (lv_at hl 1 rfl) ?_
        refine lv_aload_n hx hb dX5_notedAdded_11 rfl (lv_at hl 0 rfl) ?_
        refine va_get (D := D) (ci := 5) (v := .ref (d0 2)) (C := RX5) (T := TX5) (N := 11) hx hb hts hi5 hown hE.1 hP 0 rfl rfl 1 (by decide) hw0 (fun _ h9 => h9) rfl dX5_notedAdded_12 ?_
        refine lv_iload_n hx hb dX5_notedAdded_15 rfl (lv_at hl 2 rfl) ?_
        obtain ⟨g2, ht⟩ := it_g ht
        refine va_iald hx hb hE.1 hP 2 0 rfl rfl (q_in g2) dX5_notedAdded_16 ?_
        refine lv_iadd hx hb dX5_notedAdded_17 ?_
        refine lv_istore_n (lv' := [(1, .int (x1 + (S0 1 x2.toNatClampNeg))), (0, .ref (d0 0)), (2, .int x2)]) hx hb dX5_notedAdded_18 rfl hl (by decide) rfl (fun ls hl => ?_)
        refine lv_iinc (v := x2 + 1) (lv' := [(2, .int (x2 + 1)), (1, .int (x1 + (S0 1 x2.toNatClampNeg))), (0, .ref (d0 0))]) hx hb dX5_notedAdded_19 hl (k := 2) rfl rfl (by decide) rfl (fun ls hl => ?_)
        refine lv_goto (tgt := 4) hx hb dX5_notedAdded_22 (by decide) ?_
        exact ih4 (x1 + (S0 1 x2.toNatClampNeg)) (x2 + 1) ls (lv_sub hl [2, 1, 0] rfl) ht
  refine lv_iconst (v := 0) hx hb dX5_notedAdded_0 (by decide) ?_
  refine lv_istore_n (lv' := [(1, .int 0), (0, .ref (d0 0))]) hx hb dX5_notedAdded_1 rfl hl (by decide) rfl (fun ls hl => ?_)
  refine lv_iconst (v := 0) hx hb dX5_notedAdded_2 (by decide) ?_
  refine lv_istore_n (lv' := [(2, .int 0), (1, .int 0), (0, .ref (d0 0))]) hx hb dX5_notedAdded_3 rfl hl (by decide) rfl (fun ls hl => ?_)
  exact L4 5000 0 0 ls (lv_sub hl [2, 1, 0] rfl) ht
abbrev rmX5_mostNoted : Room := { frames := 0, cells := 0, slots := 0, locals := 0 }
set_option maxHeartbeats 4000000 in
set_option maxRecDepth 100000 in
theorem kX5_mostNoted (l : Launch) (D : va_G) (cI cZ cO : ClassId) (d0 : Nat → Nat) (S0 : St) (tg : Int32) (ht : xX5_mostNoted S0 = some tg) : Met l yX5_mostNoted wsX5_mostNoted rmX5_mostNoted (q_PR D cI cZ cO [.ref (d0 0)] (wg5 cI cZ d0 S0)) (vp_Si (fun x => x = tg ∧ True)) 0 0 (fun _ => False) := by
  refine Met.ofW (cc := cX5_mostNoted) (maxL := 3) (ret := (some .int)) (by decide) rfl ?_
  intro p e s m args below meth c s₁ B hml hv
  obtain ⟨rfl, hE, hP⟩ := hv
  have hx := B.exec
  have hb := B.bytes
  have hr := B.returns
  have hts := atoms_spec (ws := wsX5_mostNoted) B.pre
  have hown : s.vm.findClass RX5 = some m.cls := findClass_of_methodNamed B.named
  have hlocks := B.notSynchronized
  have hi5 : ∀ w ∈ u_ws RX5 TX5 11, w ∈ wsX5_mostNoted := by decide +kernel
  have hw0 := hts (.fieldLink RX5 15 "HailNames$Plain" "noted" "[I") (by decide +kernel)
  have hl := lv_entry ([.ref (d0 0)]) (n := 3) (Nat.le_of_ble_eq_true rfl)
  rw [lg_entry_eq]
  generalize (lg_sl ([.ref (d0 0)]) ++ List.replicate (3 - (lg_sl ([.ref (d0 0)])).length) Slot.unset).toArray = ls at hl ⊢
  have hl : lv_has ls 3 [(0, .ref (d0 0))] := hl
  have ht := (xX5_mostNoted_s S0).symm.trans ht
  obtain ⟨Q, hQ⟩ : ∃ Q, Q = MQ below (vp_Si (fun x => x = tg ∧ True)) ([.ref (d0 0)] : List Value).toArray s 0 0 (fun _ => False) := ⟨_, rfl⟩
  rw [← hQ]
  have L4 : ∀ (n : Nat) (x1 : Int32) (x2 : Int32) (ls : Array Slot) (_ : lv_has ls 3 [(0, .ref (d0 0)), (1, .int x1), (2, .int x2)]) (_ : xX5_mostNoted_h4 S0 n x1 x2 = some tg), W p l e (headSpec wsX5_mostNoted rmX5_mostNoted).room s m ([.ref (d0 0)] : List Value).toArray below meth c s.heap [] 0 0 Q (F0 m 4 ls []) := by
    intro n
    induction n with
    | zero =>
      intro x1 x2 ls hl ht
      exact it_z ht
    | succ n4 ih4 =>
      intro x1 x2 ls hl ht
      have ht := (xX5_mostNoted_h4_s S0 n4 x1 x2).symm.trans ht
      refine lv_iload_n hx hb dX5_mostNoted_4 rfl (lv_at hl 2 rfl) ?_
      refine lv_bipush (v := 8) hx hb dX5_mostNoted_5 (by decide) ?_
      refine lv_icmp_ge (tgt := 33) hx hb dX5_mostNoted_7 (by decide) (fun c1 => ?_) (fun c1 => ?_)
      · have ht := it_p c1 ht
        refine lv_iload_n hx hb dX5_mostNoted_33 rfl (lv_at hl 1 rfl) ?_
        subst hQ
        have ht := Option.some.inj ht
        exact W.iret (v := x1) hx hb hr (fun t e1 hW => ⟨_, rfl, ⟨ht, trivial⟩, e1⟩) (fun q h => absurd h List.not_mem_nil) dX5_mostNoted_34
      · have ht := it_n c1 ht
        refine lv_aload_n hx hb dX5_mostNoted_10 rfl (lv_at hl 0 rfl) ?_
        refine va_get (D := D) (ci := 5) (v := .ref (d0 2)) (C := RX5) (T := TX5) (N := 11) hx hb hts hi5 hown hE.1 hP 0 rfl rfl 1 (by decide) hw0 (fun _ h9 => h9) rfl dX5_mostNoted_11 ?_
        refine lv_iload_n hx hb dX5_mostNoted_14 rfl (lv_at hl 2 rfl) ?_
        obtain ⟨g2, ht⟩ := it_g ht
        refine va_iald hx hb hE.1 hP 2 0 rfl rfl (q_in g2) dX5_mostNoted_15 ?_
        refine lv_aload_n hx hb dX5_mostNoted_16 rfl (lv_at hl 0 rfl) ?_
        refine va_get (D := D) (ci := 5) (v := .ref (d0 2)) (C := RX5) (T := TX5) (N := 11) hx hb hts hi5 hown hE.1 hP 0 rfl rfl 1 (by decide) hw0 (fun _ h9 => h9) rfl dX5_mostNoted_17 ?_
        refine lv_iload_n hx hb dX5_mostNoted_20 rfl (lv_at hl 1 rfl) ?_
        obtain ⟨g3, ht⟩ := it_g ht
        refine va_iald hx hb hE.1 hP 2 0 rfl rfl (q_in g3) dX5_mostNoted_21 ?_
        refine lv_icmp_le (tgt := 27) hx hb dX5_mostNoted_22 (by decide) (fun c4 => ?_) (fun c4 => ?_)
        · have ht := it_p c4 ht
          refine lv_iinc (v := x2 + 1) (lv' := [(2, .int (x2 + 1)), (0, .ref (d0 0)), (1, .int x1)]) hx hb dX5_mostNoted_27 hl (k := 2) rfl rfl (by decide) rfl (fun ls hl => ?_)
          refine lv_goto (tgt := 4) hx hb dX5_mostNoted_30 (by decide) ?_
          exact ih4 x1 (x2 + 1) ls (lv_sub hl [1, 2, 0] rfl) ht
        · have ht := it_n c4 ht
          refine lv_iload_n hx hb dX5_mostNoted_25 rfl (lv_at hl 2 rfl) ?_
          refine lv_istore_n (lv' := [(1, .int x2), (0, .ref (d0 0)), (2, .int x2)]) hx hb dX5_mostNoted_26 rfl hl (by decide) rfl (fun ls hl => ?_)
          refine lv_iinc (v := x2 + 1) (lv' := [(2, .int (x2 + 1)), (1, .int x2), (0, .ref (d0 0))]) hx hb dX5_mostNoted_27 hl (k := 2) rfl rfl (by decide) rfl (fun ls hl => ?_)
          refine lv_goto (tgt := 4) hx hb dX5_mostNoted_30 (by decide) ?_
          exact ih4 x2 (x2 + 1) ls (lv_sub hl [2, 1, 0] rfl) ht
  refine lv_iconst (v := 0) hx hb dX5_mostNoted_0 (by decide) ?_
  refine lv_istore_n (lv' := [(1, .int 0), (0, .ref (d0 0))]) hx hb dX5_mostNoted_1 rfl hl (by decide) rfl (fun ls hl => ?_)
  refine lv_iconst (v := 1) hx hb dX5_mostNoted_2 (by decide) ?_
  refine lv_istore_n (lv' := [(2, .int 1), (1, .int 0), (0, .ref (d0 0))]) hx hb dX5_mostNoted_3 rfl hl (by decide) rfl (fun ls hl => ?_)
  exact L4 5000 0 1 ls (lv_sub hl [2, 1, 0] rfl) ht
abbrev rmX5_cellsNear : Room := { frames := 1, cells := 0, slots := 0, locals := 13 }
set_option maxHeartbeats 4000000 in
set_option maxRecDepth 100000 in
theorem kX5_cellsNear (l : Launch) (D : va_G) (cI cZ cO : ClassId) (p0 : Int32) (p1 : Int32) : Met l yX5_cellsNear wsX5_cellsNear rmX5_cellsNear (q_PR D cI cZ cO [.int p0, .int p1] ([] : va_W)) (vp_Si (fun x => x = xX5_cellsNear p0 p1 ∧ True)) 0 0 (fun _ => False) := by
  refine Met.ofW (cc := cX5_cellsNear) (maxL := 4) (ret := (some .int)) (by decide) rfl ?_
  intro p e s m args below meth c s₁ B hml hv
  obtain ⟨rfl, hE, hP⟩ := hv
  have hx := B.exec
  have hb := B.bytes
  have hr := B.returns
  have hts := atoms_spec (ws := wsX5_cellsNear) B.pre
  have hown : s.vm.findClass RX5 = some m.cls := findClass_of_methodNamed B.named
  have hlocks := B.notSynchronized
  have hw0 := hts (.methodLink RX5 72 Lib.Math.max.name) (by decide +kernel)
  have hw1 := hts (.static Lib.Math.max.name) (by decide +kernel)
  have hw2 := hts (.initialized "java/lang/Math") (by decide +kernel)
  have hw3 := hts (.code Lib.Math.max.name Lib.Math.max.code 2 (some .int)) (by decide +kernel)
  have hw4 := hts (.methodLink RX5 77 Lib.Math.min.name) (by decide +kernel)
  have hw5 := hts (.static Lib.Math.min.name) (by decide +kernel)
  have hw6 := hts (.code Lib.Math.min.name Lib.Math.min.code 2 (some .int)) (by decide +kernel)
  have hl := lv_entry ([.int p0, .int p1]) (n := 4) (Nat.le_of_ble_eq_true rfl)
  rw [lg_entry_eq]
  generalize (lg_sl ([.int p0, .int p1]) ++ List.replicate (4 - (lg_sl ([.int p0, .int p1])).length) Slot.unset).toArray = ls at hl ⊢
  have hl : lv_has ls 4 [(0, .int p0), (1, .int p1)] := hl
  have ht := xX5_cellsNear_s p0 p1
  obtain ⟨tg, htg⟩ : ∃ z, z = xX5_cellsNear p0 p1 := ⟨_, rfl⟩
  rw [← htg] at ht ⊢
  have ht := ht.symm
  refine lv_iconst (v := 0) hx hb dX5_cellsNear_0 (by decide) ?_
  refine lv_iload_n hx hb dX5_cellsNear_1 rfl (lv_at hl 0 rfl) ?_
  refine lv_iload_n hx hb dX5_cellsNear_2 rfl (lv_at hl 1 rfl) ?_
  refine lv_isub hx hb dX5_cellsNear_3 ?_
  refine q_mmax hx hb (hml.trans hl.1.symm) hown hw0 hw1 hw2 hw3 (Nat.le_of_ble_eq_true rfl) (Nat.le_of_ble_eq_true rfl) (Nat.le_of_ble_eq_true rfl) (Nat.le_of_ble_eq_true rfl) dX5_cellsNear_4 ?_
  refine lv_istore_n (lv' := [(2, .int (q_mx 0 (p0 - p1))), (0, .int p0), (1, .int p1)]) hx hb dX5_cellsNear_7 rfl hl (by decide) rfl (fun ls hl => ?_)
  refine lv_bipush (v := 11) hx hb dX5_cellsNear_8 (by decide) ?_
  refine lv_iload_n hx hb dX5_cellsNear_10 rfl (lv_at hl 1 rfl) ?_
  refine lv_iload_n hx hb dX5_cellsNear_11 rfl (lv_at hl 2 rfl) ?_
  refine lv_iadd hx hb dX5_cellsNear_12 ?_
  refine q_mmin hx hb (hml.trans hl.1.symm) hown hw4 hw5 hw2 hw6 (Nat.le_of_ble_eq_true rfl) (Nat.le_of_ble_eq_true rfl) (Nat.le_of_ble_eq_true rfl) (Nat.le_of_ble_eq_true rfl) dX5_cellsNear_13 ?_
  refine lv_istore_n (lv' := [(3, .int (q_mn 11 (p0 + p1))), (2, .int (q_mx 0 (p0 - p1))), (0, .int p0), (1, .int p1)]) hx hb dX5_cellsNear_16 rfl hl (by decide) rfl (fun ls hl => ?_)
  refine lv_iconst (v := 1) hx hb dX5_cellsNear_17 (by decide) ?_
  refine lv_iload_n hx hb dX5_cellsNear_18 rfl (lv_at hl 0 rfl) ?_
  refine lv_iconst (v := 1) hx hb dX5_cellsNear_19 (by decide) ?_
  refine lv_iadd hx hb dX5_cellsNear_20 ?_
  refine q_ishl hx hb dX5_cellsNear_21 ?_
  refine lv_iconst (v := 1) hx hb dX5_cellsNear_22 (by decide) ?_
  refine lv_iload_n hx hb dX5_cellsNear_23 rfl (lv_at hl 1 rfl) ?_
  refine q_ishl hx hb dX5_cellsNear_24 ?_
  refine lv_isub hx hb dX5_cellsNear_25 ?_
  exact W.iret (v := (q_shl 1 ((q_mn 11 (p0 + p1)) + 1)) - (q_shl 1 (q_mx 0 (p0 - p1)))) hx hb hr (fun t e1 hW => ⟨_, rfl, ⟨ht, trivial⟩, e1⟩) (fun q h => absurd h List.not_mem_nil) dX5_cellsNear_26
abbrev rmX5_allNear : Room := { frames := 2, cells := 0, slots := 0, locals := 36 }
set_option maxHeartbeats 4000000 in
set_option maxRecDepth 100000 in
theorem kX5_allNear (l : Launch) (D : va_G) (cI cZ cO : ClassId) (d0 : Nat → Nat) (S0 : St) (p0 : Int32) (p1 : Int32) (tg : Int32) (ht : xX5_allNear S0 p0 p1 = some tg) : Met l yX5_allNear wsX5_allNear rmX5_allNear (q_PR D cI cZ cO [.ref (d0 0), .int p0, .int p1] (wg5 cI cZ d0 S0)) (vp_Si (fun x => x = tg ∧ narrow .boolean (.int x) = .int x)) 0 0 (fun _ => False) := by
  refine Met.ofW (cc := cX5_allNear) (maxL := 4) (ret := (some .boolean)) (by decide) rfl ?_
  intro p e s m args below meth c s₁ B hml hv
  obtain ⟨rfl, hE, hP⟩ := hv
  have hx := B.exec
  have hb := B.bytes
  have hr := B.returns
  have hts := atoms_spec (ws := wsX5_allNear) B.pre
  have hown : s.vm.findClass RX5 = some m.cls := findClass_of_methodNamed B.named
  have hlocks := B.notSynchronized
  have hi5 : ∀ w ∈ u_ws RX5 TX5 11, w ∈ wsX5_allNear := by decide +kernel
  have hw0 := hts (.fieldLink RX5 18 "HailNames$Plain" "cell" "[I") (by decide +kernel)
  have hl := lv_entry ([.ref (d0 0), .int p0, .int p1]) (n := 4) (Nat.le_of_ble_eq_true rfl)
  rw [lg_entry_eq]
  generalize (lg_sl ([.ref (d0 0), .int p0, .int p1]) ++ List.replicate (4 - (lg_sl ([.ref (d0 0), .int p0, .int p1])).length) Slot.unset).toArray = ls at hl ⊢
  have hl : lv_has ls 4 [(0, .ref (d0 0)), (1, .int p0), (2, .int p1)] := hl
  have ht := (xX5_allNear_s S0 p0 p1).symm.trans ht
  obtain ⟨Q, hQ⟩ : ∃ Q, Q = MQ below (vp_Si (fun x => x = tg ∧ narrow .boolean (.int x) = .int x)) ([.ref (d0 0), .int p0, .int p1] : List Value).toArray s 0 0 (fun _ => False) := ⟨_, rfl⟩
  rw [← hQ]
  have L2 : ∀ (n : Nat) (x3 : Int32) (ls : Array Slot) (_ : lv_has ls 4 [(0, .ref (d0 0)), (1, .int p0), (2, .int p1), (3, .int x3)]) (_ : xX5_allNear_h2 S0 p0 p1 n x3 = some tg), W p l e (headSpec wsX5_allNear rmX5_allNear).room s m ([.ref (d0 0), .int p0, .int p1] : List Value).toArray below meth c s.heap [] 0 0 Q (F0 m 2 ls []) := by
    intro n
    induction n with
    | zero =>
      intro x3 ls hl ht
      exact it_z ht
    | succ n2 ih2 =>
      intro x3 ls hl ht
      have ht := (xX5_allNear_h2_s S0 p0 p1 n2 x3).symm.trans ht
      refine lv_iload_n hx hb dX5_allNear_2 rfl (lv_at hl 3 rfl) ?_
      refine lv_bipush (v := 8) hx hb dX5_allNear_3 (by decide) ?_
      refine lv_icmp_ge (tgt := 39) hx hb dX5_allNear_5 (by decide) (fun c1 => ?_) (fun c1 => ?_)
      · have ht := it_p c1 ht
        refine lv_iconst (v := 1) hx hb dX5_allNear_39 (by decide) ?_
        subst hQ
        have ht := Option.some.inj ht
        exact W.zret (v := 1) (ty := .boolean) hx hb hr (by decide +kernel) (fun t e1 hW => ⟨_, rfl, ⟨ht, (by decide +kernel)⟩, e1⟩) (fun q h => absurd h List.not_mem_nil) dX5_allNear_40
      · have ht := it_n c1 ht
        refine lv_aload_n hx hb dX5_allNear_8 rfl (lv_at hl 0 rfl) ?_
        refine lv_iload_n hx hb dX5_allNear_9 rfl (lv_at hl 3 rfl) ?_
        obtain ⟨q2, hq2, ht⟩ := it_b ht
        refine q_ri (va_runV (As := [.int x3]) (rest := []) ⟨hx, hb, hml, hown, hts⟩ (kX5_lies l D cI cZ cO d0 S0 x3 q2 hq2) (cwV 1 hts gX5_allNear_X5_lies rfl rfl rfl (by decide +kernel) ⟨Nat.le_of_ble_eq_true rfl, Nat.le_of_ble_eq_true rfl⟩) (q_rV (As := [.int x3]) hE hP (q0 := 0) (ci := 5) rfl rfl) rfl rfl hl.1 rfl (lv_room (Nat.le_of_ble_eq_true rfl)) dX5_allNear_10 ⟨Nat.le_of_ble_eq_true rfl, Nat.le_of_ble_eq_true rfl⟩) (fun b3 => ?_)
        refine lv_if_eq (tgt := 33) hx hb dX5_allNear_13 (by decide) (fun c4 => ?_) (fun c4 => ?_)
        · have ht := it_p c4 ht
          refine lv_iinc (v := x3 + 1) (lv' := [(3, .int (x3 + 1)), (0, .ref (d0 0)), (1, .int p0), (2, .int p1)]) hx hb dX5_allNear_33 hl (k := 3) rfl rfl (by decide) rfl (fun ls hl => ?_)
          refine lv_goto (tgt := 2) hx hb dX5_allNear_36 (by decide) ?_
          exact ih2 (x3 + 1) ls (lv_sub hl [1, 2, 3, 0] rfl) ht
        · have ht := it_n c4 ht
          refine lv_iload_n hx hb dX5_allNear_16 rfl (lv_at hl 1 rfl) ?_
          refine lv_aload_n hx hb dX5_allNear_17 rfl (lv_at hl 0 rfl) ?_
          refine va_get (D := D) (ci := 5) (v := .ref (d0 3)) (C := RX5) (T := TX5) (N := 11) hx hb hts hi5 hown hE.1 hP 0 rfl rfl 2 (by decide) hw0 (fun _ h9 => h9) rfl dX5_allNear_18 ?_
          refine lv_iload_n hx hb dX5_allNear_21 rfl (lv_at hl 3 rfl) ?_
          obtain ⟨g5, ht⟩ := it_g ht
          refine va_iald hx hb hE.1 hP 3 0 rfl rfl (q_in g5) dX5_allNear_22 ?_
          refine lv_iload_n hx hb dX5_allNear_23 rfl (lv_at hl 2 rfl) ?_
          refine q_ri (va_runS (As := [.int (S0 2 x3.toNatClampNeg), .int p1]) (rest := [.int p0]) ⟨hx, hb, hml, hown, hts⟩ (kX5_cellsNear l D cI cZ cO (S0 2 x3.toNatClampNeg) p1) (va_cwS 2 hts gX5_allNear_X5_cellsNear rfl rfl rfl (by decide +kernel) ⟨Nat.le_of_ble_eq_true rfl, Nat.le_of_ble_eq_true rfl⟩) (q_rS hE q_nil) rfl rfl hl.1 rfl (lv_room (Nat.le_of_ble_eq_true rfl)) dX5_allNear_24 ⟨Nat.le_of_ble_eq_true rfl, Nat.le_of_ble_eq_true rfl⟩) (fun b6 => ?_)
          refine lv_iand hx hb dX5_allNear_27 ?_
          refine lv_if_ne (tgt := 33) hx hb dX5_allNear_28 (by decide) (fun c7 => ?_) (fun c7 => ?_)
          · have ht := it_n c7 ht
            refine lv_iinc (v := x3 + 1) (lv' := [(3, .int (x3 + 1)), (0, .ref (d0 0)), (1, .int p0), (2, .int p1)]) hx hb dX5_allNear_33 hl (k := 3) rfl rfl (by decide) rfl (fun ls hl => ?_)
            refine lv_goto (tgt := 2) hx hb dX5_allNear_36 (by decide) ?_
            exact ih2 (x3 + 1) ls (lv_sub hl [1, 2, 3, 0] rfl) ht
          · have ht := it_p c7 ht
            refine lv_iconst (v := 0) hx hb dX5_allNear_31 (by decide) ?_
            subst hQ
            have ht := Option.some.inj ht
            exact W.zret (v := 0) (ty := .boolean) hx hb hr (by decide +kernel) (fun t e1 hW => ⟨_, rfl, ⟨ht, (by decide +kernel)⟩, e1⟩) (fun q h => absurd h List.not_mem_nil) dX5_allNear_32
  refine lv_iconst (v := 0) hx hb dX5_allNear_0 (by decide) ?_
  refine lv_istore_n (lv' := [(3, .int 0), (0, .ref (d0 0)), (1, .int p0), (2, .int p1)]) hx hb dX5_allNear_1 rfl hl (by decide) rfl (fun ls hl => ?_)
  exact L2 5000 0 ls (lv_sub hl [1, 2, 3, 0] rfl) ht
abbrev rmX6_earliestArrival : Room := { frames := 1, cells := 0, slots := 0, locals := 14 }
set_option maxHeartbeats 4000000 in
set_option maxRecDepth 100000 in
theorem kX6_earliestArrival (l : Launch) (D : va_G) (cI cZ cO : ClassId) (d0 : Nat → Nat) (d1 : Nat → Nat) (S0 : St) (S1 : St) (p1 : Int32) (p2 : Int32) (p3 : Int32) (tg : Int32) (ht : xX6_earliestArrival S0 S1 p1 p2 p3 = some tg) : Met l yX6_earliestArrival wsX6_earliestArrival rmX6_earliestArrival (q_PR D cI cZ cO [.ref (d0 0), .ref (d1 0), .int p1, .int p2, .int p3] (wg6 cI cZ d0 S0 ++ (wg5 cI cZ d1 S1))) (vp_Si (fun x => x = tg ∧ True)) 0 0 (fun _ => False) := by
  refine Met.ofW (cc := cX6_earliestArrival) (maxL := 8) (ret := (some .int)) (by decide) rfl ?_
  intro p e s m args below meth c s₁ B hml hv
  obtain ⟨rfl, hE, hP⟩ := hv
  have hx := B.exec
  have hb := B.bytes
  have hr := B.returns
  have hts := atoms_spec (ws := wsX6_earliestArrival) B.pre
  have hown : s.vm.findClass RX6 = some m.cls := findClass_of_methodNamed B.named
  have hlocks := B.notSynchronized
  have hi5 : ∀ w ∈ u_ws RX5 TX5 11, w ∈ wsX6_earliestArrival := by decide +kernel
  have hi6 : ∀ w ∈ u_ws RX6 TX6 1, w ∈ wsX6_earliestArrival := by decide +kernel
  have hw0 := hts (.fieldLink RX6 40 "HailNames$Plain" "stunned" "[I") (by decide +kernel)
  have hw1 := hts (.fieldLink RX6 43 "HailNames$Plain" "acted" "[Z") (by decide +kernel)
  have hw2 := hts (.fieldLink RX6 56 "HailNames$Plain" "cell" "[I") (by decide +kernel)
  have hw3 := hts (.methodLink RX6 59 Lib.Math.abs.name) (by decide +kernel)
  have hw4 := hts (.static Lib.Math.abs.name) (by decide +kernel)
  have hw5 := hts (.initialized "java/lang/Math") (by decide +kernel)
  have hw6 := hts (.code Lib.Math.abs.name Lib.Math.abs.code 1 (some .int)) (by decide +kernel)
  have hw7 := hts (.fieldLink RX6 9 "HailNames$Planner" "freeFrom" "[I") (by decide +kernel)
  have hw8 := hts (.methodLink RX6 62 Lib.Math.min.name) (by decide +kernel)
  have hw9 := hts (.static Lib.Math.min.name) (by decide +kernel)
  have hw10 := hts (.code Lib.Math.min.name Lib.Math.min.code 2 (some .int)) (by decide +kernel)
  have hw11 := hts (.methodLink RX6 47 Lib.Math.max.name) (by decide +kernel)
  have hw12 := hts (.static Lib.Math.max.name) (by decide +kernel)
  have hw13 := hts (.code Lib.Math.max.name Lib.Math.max.code 2 (some .int)) (by decide +kernel)
  have hw14 := hts (.fieldLink RX6 53 "HailNames$Plain" "place" "[I") (by decide +kernel)
  have hl := lv_entry ([.ref (d0 0), .ref (d1 0), .int p1, .int p2, .int p3]) (n := 8) (Nat.le_of_ble_eq_true rfl)
  rw [lg_entry_eq]
  generalize (lg_sl ([.ref (d0 0), .ref (d1 0), .int p1, .int p2, .int p3]) ++ List.replicate (8 - (lg_sl ([.ref (d0 0), .ref (d1 0), .int p1, .int p2, .int p3])).length) Slot.unset).toArray = ls at hl ⊢
  have hl : lv_has ls 8 [(0, .ref (d0 0)), (1, .ref (d1 0)), (2, .int p1), (3, .int p2), (4, .int p3)] := hl
  have ht := (xX6_earliestArrival_s S0 S1 p1 p2 p3).symm.trans ht
  obtain ⟨Q, hQ⟩ : ∃ Q, Q = MQ below (vp_Si (fun x => x = tg ∧ True)) ([.ref (d0 0), .ref (d1 0), .int p1, .int p2, .int p3] : List Value).toArray s 0 0 (fun _ => False) := ⟨_, rfl⟩
  rw [← hQ]
  have L58 : ∀ (n : Nat) (x5 : Int32) (x6 : Int32) (ls : Array Slot) (_ : lv_has ls 8 [(0, .ref (d0 0)), (1, .ref (d1 0)), (3, .int p2), (4, .int p3), (5, .int x5), (6, .int x6)]) (_ : xX6_earliestArrival_h58 S0 S1 p1 p2 p3 n x5 x6 = some tg), W p l e (headSpec wsX6_earliestArrival rmX6_earliestArrival).room s m ([.ref (d0 0), .ref (d1 0), .int p1, .int p2, .int p3] : List Value).toArray below meth c s.heap [] 0 0 Q (F0 m 58 ls []) := by
    intro n
    induction n with
    | zero =>
      intro x5 x6 ls hl ht
      exact it_z ht
    | succ n58 ih58 =>
      intro x5 x6 ls hl ht
      have ht := (xX6_earliestArrival_h58_s S0 S1 p1 p2 p3 n58 x5 x6).symm.trans ht
      refine lv_iload hx hb dX6_earliestArrival_58 (lv_at hl 5 rfl) ?_
      refine lv_bipush (v := 8) hx hb dX6_earliestArrival_60 (by decide) ?_
      refine lv_icmp_ge (tgt := 123) hx hb dX6_earliestArrival_62 (by decide) (fun c4 => ?_) (fun c4 => ?_)
      · have ht := it_p c4 ht
        refine lv_iload hx hb dX6_earliestArrival_123 (lv_at hl 4 rfl) ?_
        subst hQ
        have ht := Option.some.inj ht
        exact W.iret (v := x5) hx hb hr (fun t e1 hW => ⟨_, rfl, ⟨ht, trivial⟩, e1⟩) (fun q h => absurd h List.not_mem_nil) dX6_earliestArrival_125
      · have ht := it_n c4 ht
        refine lv_iload_n hx hb dX6_earliestArrival_65 rfl (lv_at hl 2 rfl) ?_
        refine lv_iload hx hb dX6_earliestArrival_66 (lv_at hl 5 rfl) ?_
        refine q_ishr hx hb dX6_earliestArrival_68 ?_
        refine lv_iconst (v := 1) hx hb dX6_earliestArrival_69 (by decide) ?_
        refine lv_iand hx hb dX6_earliestArrival_70 ?_
        refine lv_iconst (v := 1) hx hb dX6_earliestArrival_71 (by decide) ?_
        refine lv_icmp_ne (tgt := 117) hx hb dX6_earliestArrival_72 (by decide) (fun c5 => ?_) (fun c5 => ?_)
        · have ht := it_n c5 ht
          refine lv_iinc (v := x6 + 1) (lv' := [(6, .int (x6 + 1)), (0, .ref (d0 0)), (1, .ref (d1 0)), (3, .int p2), (4, .int p3), (5, .int x5)]) hx hb dX6_earliestArrival_117 hl (k := 5) rfl rfl (by decide) rfl (fun ls hl => ?_)
          refine lv_goto (tgt := 58) hx hb dX6_earliestArrival_120 (by decide) ?_
          exact ih58 x5 (x6 + 1) ls (lv_sub hl [1, 2, 3, 4, 5, 0] rfl) ht
        · have ht := it_p c5 ht
          refine lv_aload_n hx hb dX6_earliestArrival_75 rfl (lv_at hl 1 rfl) ?_
          refine va_get (D := D) (ci := 5) (v := .ref (d1 3)) (C := RX5) (T := TX5) (N := 11) hx hb hts hi5 hown hE.1 hP 2 rfl rfl 2 (by decide) hw2 (fun _ h9 => h9) rfl dX6_earliestArrival_76 ?_
          refine lv_iload hx hb dX6_earliestArrival_79 (lv_at hl 5 rfl) ?_
          obtain ⟨g6, ht⟩ := it_g ht
          refine va_iald hx hb hE.1 hP 5 0 rfl rfl (q_in g6) dX6_earliestArrival_81 ?_
          refine lv_aload_n hx hb dX6_earliestArrival_82 rfl (lv_at hl 1 rfl) ?_
          refine va_get (D := D) (ci := 5) (v := .ref (d1 3)) (C := RX5) (T := TX5) (N := 11) hx hb hts hi5 hown hE.1 hP 2 rfl rfl 2 (by decide) hw2 (fun _ h9 => h9) rfl dX6_earliestArrival_83 ?_
          refine lv_iload hx hb dX6_earliestArrival_86 (lv_at hl 3 rfl) ?_
          obtain ⟨g7, ht⟩ := it_g ht
          refine va_iald hx hb hE.1 hP 5 0 rfl rfl (q_in g7) dX6_earliestArrival_88 ?_
          refine lv_isub hx hb dX6_earliestArrival_89 ?_
          refine q_mabs hx hb (hml.trans hl.1.symm) hown hw3 hw4 hw5 hw6 (Nat.le_of_ble_eq_true rfl) (Nat.le_of_ble_eq_true rfl) (Nat.le_of_ble_eq_true rfl) (Nat.le_of_ble_eq_true rfl) dX6_earliestArrival_90 ?_
          refine lv_topi (fun y8 ey8 => ?_)
          have ht := it_l ht ey8
          refine lv_istore (lv' := [(7, .int y8), (0, .ref (d0 0)), (1, .ref (d1 0)), (3, .int p2), (4, .int p3), (5, .int x5), (6, .int x6)]) hx hb dX6_earliestArrival_93 hl (by decide) rfl (fun ls hl => ?_)
          refine lv_iload hx hb dX6_earliestArrival_95 (lv_at hl 5 rfl) ?_
          refine lv_aload_n hx hb dX6_earliestArrival_97 rfl (lv_at hl 1 rfl) ?_
          refine va_get (D := D) (ci := 6) (v := .ref (d0 1)) (C := RX6) (T := TX6) (N := 1) hx hb hts hi6 hown hE.1 hP 0 rfl rfl 0 (by decide) hw7 (fun _ h9 => h9) rfl dX6_earliestArrival_98 ?_
          refine lv_iload_n hx hb dX6_earliestArrival_101 rfl (lv_at hl 3 rfl) ?_
          refine lv_bipush (v := 8) hx hb dX6_earliestArrival_102 (by decide) ?_
          refine lv_imul hx hb dX6_earliestArrival_104 ?_
          refine lv_iload hx hb dX6_earliestArrival_105 (lv_at hl 6 rfl) ?_
          refine lv_iadd hx hb dX6_earliestArrival_107 ?_
          obtain ⟨g9, ht⟩ := it_g ht
          refine va_iald hx hb hE.1 hP 1 0 rfl rfl (q_in g9) dX6_earliestArrival_108 ?_
          refine lv_iload hx hb dX6_earliestArrival_109 (lv_at hl 0 rfl) ?_
          refine lv_iadd hx hb dX6_earliestArrival_111 ?_
          refine q_mmin hx hb (hml.trans hl.1.symm) hown hw8 hw9 hw5 hw10 (Nat.le_of_ble_eq_true rfl) (Nat.le_of_ble_eq_true rfl) (Nat.le_of_ble_eq_true rfl) (Nat.le_of_ble_eq_true rfl) dX6_earliestArrival_112 ?_
          refine lv_topi (fun y10 ey10 => ?_)
          have ht := it_l ht ey10
          refine lv_istore (lv' := [(5, .int y10), (7, .int y8), (0, .ref (d0 0)), (1, .ref (d1 0)), (3, .int p2), (4, .int p3), (6, .int x6)]) hx hb dX6_earliestArrival_115 hl (by decide) rfl (fun ls hl => ?_)
          refine lv_iinc (v := x6 + 1) (lv' := [(6, .int (x6 + 1)), (5, .int y10), (7, .int y8), (0, .ref (d0 0)), (1, .ref (d1 0)), (3, .int p2), (4, .int p3)]) hx hb dX6_earliestArrival_117 hl (k := 6) rfl rfl (by decide) rfl (fun ls hl => ?_)
          refine lv_goto (tgt := 58) hx hb dX6_earliestArrival_120 (by decide) ?_
          exact ih58 y10 (x6 + 1) ls (lv_sub hl [3, 4, 5, 6, 1, 0] rfl) ht
  have J24 : ∀ (z0 : Int32) (z1 : Int32) (ls : Array Slot) (_ : lv_has ls 8 [(1, .ref (d1 0)), (2, .int p1), (4, .int p3)]) (_ : xX6_earliestArrival_h24 S0 S1 p1 p2 p3 z0 z1 = some tg), W p l e (headSpec wsX6_earliestArrival rmX6_earliestArrival).room s m ([.ref (d0 0), .ref (d1 0), .int p1, .int p2, .int p3] : List Value).toArray below meth c s.heap [] 0 0 Q (F0 m 24 ls [.int z1, .int z0]) := by
    intro z0 z1 ls hl ht
    have ht := (xX6_earliestArrival_h24_s S0 S1 p1 p2 p3 z0 z1).symm.trans ht
    refine q_mmax hx hb (hml.trans hl.1.symm) hown hw11 hw12 hw5 hw13 (Nat.le_of_ble_eq_true rfl) (Nat.le_of_ble_eq_true rfl) (Nat.le_of_ble_eq_true rfl) (Nat.le_of_ble_eq_true rfl) dX6_earliestArrival_24 ?_
    refine lv_istore (lv' := [(5, .int (q_mx z0 z1)), (1, .ref (d1 0)), (2, .int p1), (4, .int p3)]) hx hb dX6_earliestArrival_27 hl (by decide) rfl (fun ls hl => ?_)
    refine lv_iload hx hb dX6_earliestArrival_29 (lv_at hl 0 rfl) ?_
    refine lv_aload_n hx hb dX6_earliestArrival_31 rfl (lv_at hl 1 rfl) ?_
    refine va_get (D := D) (ci := 5) (v := .ref (d1 6)) (C := RX5) (T := TX5) (N := 11) hx hb hts hi5 hown hE.1 hP 2 rfl rfl 5 (by decide) hw14 (fun _ h9 => h9) rfl dX6_earliestArrival_32 ?_
    refine lv_iload_n hx hb dX6_earliestArrival_35 rfl (lv_at hl 2 rfl) ?_
    obtain ⟨g11, ht⟩ := it_g ht
    refine va_iald hx hb hE.1 hP 8 0 rfl rfl (q_in g11) dX6_earliestArrival_36 ?_
    refine lv_aload_n hx hb dX6_earliestArrival_37 rfl (lv_at hl 1 rfl) ?_
    refine va_get (D := D) (ci := 5) (v := .ref (d1 3)) (C := RX5) (T := TX5) (N := 11) hx hb hts hi5 hown hE.1 hP 2 rfl rfl 2 (by decide) hw2 (fun _ h9 => h9) rfl dX6_earliestArrival_38 ?_
    refine lv_iload hx hb dX6_earliestArrival_41 (lv_at hl 3 rfl) ?_
    obtain ⟨g12, ht⟩ := it_g ht
    refine va_iald hx hb hE.1 hP 5 0 rfl rfl (q_in g12) dX6_earliestArrival_43 ?_
    refine lv_isub hx hb dX6_earliestArrival_44 ?_
    refine q_mabs hx hb (hml.trans hl.1.symm) hown hw3 hw4 hw5 hw6 (Nat.le_of_ble_eq_true rfl) (Nat.le_of_ble_eq_true rfl) (Nat.le_of_ble_eq_true rfl) (Nat.le_of_ble_eq_true rfl) dX6_earliestArrival_45 ?_
    refine lv_iadd hx hb dX6_earliestArrival_48 ?_
    subst hQ
    have ht := Option.some.inj ht
    exact W.iret (v := (q_mx z0 z1) + (q_ab ((S1 5 p1.toNatClampNeg) - (S1 2 p3.toNatClampNeg)))) hx hb hr (fun t e1 hW => ⟨_, rfl, ⟨ht, trivial⟩, e1⟩) (fun q h => absurd h List.not_mem_nil) dX6_earliestArrival_49
  refine lv_iload_n hx hb dX6_earliestArrival_0 rfl (lv_at hl 3 rfl) ?_
  refine lv_if_ne (tgt := 50) hx hb dX6_earliestArrival_1 (by decide) (fun c1 => ?_) (fun c1 => ?_)
  · have ht := it_n c1 ht
    refine lv_sipush (v := 1000) hx hb dX6_earliestArrival_50 (by decide +kernel) ?_
    refine lv_istore (lv' := [(5, .int 1000), (0, .ref (d0 0)), (1, .ref (d1 0)), (2, .int p1), (3, .int p2), (4, .int p3)]) hx hb dX6_earliestArrival_53 hl (by decide) rfl (fun ls hl => ?_)
    refine lv_iconst (v := 0) hx hb dX6_earliestArrival_55 (by decide) ?_
    refine lv_istore (lv' := [(6, .int 0), (5, .int 1000), (0, .ref (d0 0)), (1, .ref (d1 0)), (2, .int p1), (3, .int p2), (4, .int p3)]) hx hb dX6_earliestArrival_56 hl (by decide) rfl (fun ls hl => ?_)
    exact L58 5000 1000 0 ls (lv_sub hl [2, 3, 5, 6, 1, 0] rfl) ht
  · have ht := it_p c1 ht
    refine lv_aload_n hx hb dX6_earliestArrival_4 rfl (lv_at hl 1 rfl) ?_
    refine va_get (D := D) (ci := 5) (v := .ref (d1 7)) (C := RX5) (T := TX5) (N := 11) hx hb hts hi5 hown hE.1 hP 2 rfl rfl 6 (by decide) hw0 (fun _ h9 => h9) rfl dX6_earliestArrival_5 ?_
    refine lv_iload_n hx hb dX6_earliestArrival_8 rfl (lv_at hl 2 rfl) ?_
    obtain ⟨g2, ht⟩ := it_g ht
    refine va_iald hx hb hE.1 hP 9 0 rfl rfl (q_in g2) dX6_earliestArrival_9 ?_
    refine lv_aload_n hx hb dX6_earliestArrival_10 rfl (lv_at hl 1 rfl) ?_
    refine va_get (D := D) (ci := 5) (v := .ref (d1 9)) (C := RX5) (T := TX5) (N := 11) hx hb hts hi5 hown hE.1 hP 2 rfl rfl 8 (by decide) hw1 (fun _ h9 => h9) rfl dX6_earliestArrival_11 ?_
    refine lv_iload_n hx hb dX6_earliestArrival_14 rfl (lv_at hl 2 rfl) ?_
    refine va_zald hx hb hE.1 hP 11 1 rfl rfl (q_in g2) dX6_earliestArrival_15 ?_
    refine lv_if_eq (tgt := 23) hx hb dX6_earliestArrival_16 (by decide) (fun c3 => ?_) (fun c3 => ?_)
    · have ht := it_p c3 ht
      refine lv_iconst (v := 0) hx hb dX6_earliestArrival_23 (by decide) ?_
      exact J24 (S1 6 p1.toNatClampNeg) 0 ls (lv_sub hl [1, 2, 4] rfl) ht
    · have ht := it_n c3 ht
      refine lv_iconst (v := 1) hx hb dX6_earliestArrival_19 (by decide) ?_
      refine lv_goto (tgt := 24) hx hb dX6_earliestArrival_20 (by decide) ?_
      exact J24 (S1 6 p1.toNatClampNeg) 1 ls (lv_sub hl [1, 2, 4] rfl) ht
abbrev rmX6_canRead : Room := { frames := 2, cells := 0, slots := 0, locals := 41 }
set_option maxHeartbeats 4000000 in
set_option maxRecDepth 100000 in
theorem kX6_canRead (l : Launch) (D : va_G) (cI cZ cO : ClassId) (d0 : Nat → Nat) (d1 : Nat → Nat) (sz : Nat) (S0 : St) (S1 : St) (p1 : Int32) (p2 : Int32) (tg : Int32 × St) (ht : xX6_canRead S1 p1 p2 S0 = some tg) : Met l yX6_canRead wsX6_canRead rmX6_canRead (q_PM D cI cZ cO [.ref (d0 0), .ref (d1 0), .int p1, .int p2] sz (wg6 cI cZ d0 S0 ++ (wg5 cI cZ d1 S1))) (va_Qi (fun x (_ : Unit) => x = tg.1 ∧ narrow .boolean (.int x) = .int x) (fun _ t => va_P D vwCl (wg6 cI cZ d0 tg.2 ++ (wg5 cI cZ d1 S1)) t.heap) (va_A (wg6 cI cZ d0 S0 ++ (wg5 cI cZ d1 S1)) sz)) 0 0 (va_A (wg6 cI cZ d0 S0 ++ (wg5 cI cZ d1 S1)) sz) := by
  refine Met.ofW (cc := cX6_canRead) (maxL := 8) (ret := (some .boolean)) (by decide) rfl ?_
  intro p e s m args below meth c s₁ B hml hv
  obtain ⟨rfl, hsz, hE, hP, hD0⟩ := hv
  have hx := B.exec
  have hb := B.bytes
  have hr := B.returns
  have hts := atoms_spec (ws := wsX6_canRead) B.pre
  have hown : s.vm.findClass RX6 = some m.cls := findClass_of_methodNamed B.named
  have hlocks := B.notSynchronized
  have hi6 : ∀ w ∈ u_ws RX6 TX6 1, w ∈ wsX6_canRead := by decide +kernel
  have hi5 : ∀ w ∈ u_ws RX5 TX5 11, w ∈ wsX6_canRead := by decide +kernel
  have hw0 := hts (.fieldLink RX6 9 "HailNames$Planner" "freeFrom" "[I") (by decide +kernel)
  have hw1 := hts (.fieldLink RX6 33 "HailNames$Plain" "size" "[I") (by decide +kernel)
  have hw2 := hts (.fieldLink RX6 36 "HailNames$Plain" "melting" "I") (by decide +kernel)
  subst hsz
  have hD1 := hD0.self (sz := s.heap.size)
  generalize hAe : va_A (wg6 cI cZ d0 S0 ++ (wg5 cI cZ d1 S1)) s.heap.size = A at hD1 ⊢
  have hA : ∀ q : Nat, s.heap.size ≤ q → A q := fun q h => by rw [← hAe]; exact Or.inr h
  have hS : va_S A s.heap s.heap [] := va_S.rf
  have hD : ∀ (S0 : St) (S1 : St), va_D A (wg6 cI cZ d0 S0 ++ (wg5 cI cZ d1 S1)) := fun S0 S1 => q_D hD1 rfl
  have hl := lv_entry ([.ref (d0 0), .ref (d1 0), .int p1, .int p2]) (n := 8) (Nat.le_of_ble_eq_true rfl)
  rw [lg_entry_eq]
  generalize (lg_sl ([.ref (d0 0), .ref (d1 0), .int p1, .int p2]) ++ List.replicate (8 - (lg_sl ([.ref (d0 0), .ref (d1 0), .int p1, .int p2])).length) Slot.unset).toArray = ls at hl ⊢
  have hl : lv_has ls 8 [(0, .ref (d0 0)), (1, .ref (d1 0)), (2, .int p1), (3, .int p2)] := hl
  have ht := (xX6_canRead_s S1 p1 p2 S0).symm.trans ht
  obtain ⟨Q, hQ⟩ : ∃ Q, Q = MQ below (va_Qi (fun x (_ : Unit) => x = tg.1 ∧ narrow .boolean (.int x) = .int x) (fun _ t => va_P D vwCl (wg6 cI cZ d0 tg.2 ++ (wg5 cI cZ d1 S1)) t.heap) A) ([.ref (d0 0), .ref (d1 0), .int p1, .int p2] : List Value).toArray s 0 0 A := ⟨_, rfl⟩
  rw [← hQ]
  have L6 : ∀ (n : Nat) (x4 : Int32) (x5 : Int32) (S0 : St) (H : Heap) (locs : List Loc) (_ : va_P D vwCl (wg6 cI cZ d0 S0 ++ (wg5 cI cZ d1 S1)) H) (_ : va_S A s.heap H locs) (ls : Array Slot) (_ : lv_has ls 8 [(0, .ref (d0 0)), (1, .ref (d1 0)), (2, .int p1), (3, .int p2), (4, .int x4), (5, .int x5)]) (_ : xX6_canRead_h6 S1 p1 p2 n x4 x5 S0 = some tg), W p l e (headSpec wsX6_canRead rmX6_canRead).room s m ([.ref (d0 0), .ref (d1 0), .int p1, .int p2] : List Value).toArray below meth c H locs 0 0 Q (F0 m 6 ls []) := by
    intro n
    induction n with
    | zero =>
      intro x4 x5 S0 H locs hP hS ls hl ht
      exact it_z ht
    | succ n6 ih6 =>
      intro x4 x5 S0 H locs hP hS ls hl ht
      have ht := (xX6_canRead_h6_s S1 p1 p2 n6 x4 x5 S0).symm.trans ht
      refine lv_iload hx hb dX6_canRead_6 (lv_at hl 5 rfl) ?_
      refine lv_bipush (v := 8) hx hb dX6_canRead_8 (by decide) ?_
      refine lv_icmp_ge (tgt := 103) hx hb dX6_canRead_10 (by decide) (fun c1 => ?_) (fun c1 => ?_)
      · have ht := it_p c1 ht
        refine lv_iload hx hb dX6_canRead_103 (lv_at hl 4 rfl) ?_
        obtain ⟨g2, ht⟩ := it_g ht
        subst hQ
        obtain rfl := Option.some.inj ht
        exact W.zret (v := x4) (ty := .boolean) hx hb hr (q_zn g2) (fun t e1 hW => ⟨⟨_, (), rfl, ⟨rfl, (q_zn g2)⟩, q_at e1 hP⟩, hS.F e1⟩) hS.2.2 dX6_canRead_105
      · have ht := it_n c1 ht
        refine lv_iload_n hx hb dX6_canRead_13 rfl (lv_at hl 3 rfl) ?_
        refine lv_bipush (v := 8) hx hb dX6_canRead_14 (by decide) ?_
        refine lv_imul hx hb dX6_canRead_16 ?_
        refine lv_iload hx hb dX6_canRead_17 (lv_at hl 5 rfl) ?_
        refine lv_iadd hx hb dX6_canRead_19 ?_
        refine lv_istore (lv' := [(6, .int ((p2 * 8) + x5)), (0, .ref (d0 0)), (1, .ref (d1 0)), (2, .int p1), (3, .int p2), (4, .int x4), (5, .int x5)]) hx hb dX6_canRead_20 hl (by decide) rfl (fun ls hl => ?_)
        refine lv_aload_n hx hb dX6_canRead_22 rfl (lv_at hl 1 rfl) ?_
        refine va_get (D := D) (ci := 6) (v := .ref (d0 1)) (C := RX6) (T := TX6) (N := 1) hx hb hts hi6 hown hE.1 hP 0 rfl rfl 0 (by decide) hw0 (fun _ h9 => h9) rfl dX6_canRead_23 ?_
        refine lv_iload hx hb dX6_canRead_26 (lv_at hl 0 rfl) ?_
        refine lv_sipush (v := 1000) hx hb dX6_canRead_28 (by decide +kernel) ?_
        obtain ⟨g3, ht⟩ := it_g ht
        refine va_iast hx hb hE.1 hP (hD _ _) hS 1 0 rfl rfl (q_in g3) dX6_canRead_31 (fun H locs hP _ hS => ?_)
        have hP : va_P D vwCl (wg6 cI cZ d0 (q_su S0 0 (((p2 * 8) + x5).toNatClampNeg) 1000) ++ (wg5 cI cZ d1 S1)) H := hP
        obtain ⟨T4, eT4⟩ : ∃ z : St, z = q_su S0 0 (((p2 * 8) + x5).toNatClampNeg) 1000 := ⟨_, rfl⟩
        rw [← eT4] at hP
        have ht := it_l ht eT4
        refine lv_iload_n hx hb dX6_canRead_32 rfl (lv_at hl 4 rfl) ?_
        refine lv_iload hx hb dX6_canRead_33 (lv_at hl 6 rfl) ?_
        refine q_ishr hx hb dX6_canRead_35 ?_
        refine lv_iconst (v := 1) hx hb dX6_canRead_36 (by decide) ?_
        refine lv_iand hx hb dX6_canRead_37 ?_
        refine lv_iconst (v := 1) hx hb dX6_canRead_38 (by decide) ?_
        refine lv_icmp_ne (tgt := 97) hx hb dX6_canRead_39 (by decide) (fun c5 => ?_) (fun c5 => ?_)
        · have ht := it_n c5 ht
          refine lv_iinc (v := x5 + 1) (lv' := [(5, .int (x5 + 1)), (6, .int ((p2 * 8) + x5)), (0, .ref (d0 0)), (1, .ref (d1 0)), (2, .int p1), (3, .int p2), (4, .int x4)]) hx hb dX6_canRead_97 hl (k := 6) rfl rfl (by decide) rfl (fun ls hl => ?_)
          refine lv_goto (tgt := 6) hx hb dX6_canRead_100 (by decide) ?_
          exact ih6 x4 (x5 + 1) T4 _ _ hP hS ls (lv_sub hl [2, 3, 4, 5, 6, 0] rfl) ht
        · have ht := it_p c5 ht
          refine lv_aload_n hx hb dX6_canRead_42 rfl (lv_at hl 1 rfl) ?_
          refine lv_aload_n hx hb dX6_canRead_43 rfl (lv_at hl 2 rfl) ?_
          refine lv_iload_n hx hb dX6_canRead_44 rfl (lv_at hl 3 rfl) ?_
          refine lv_iload_n hx hb dX6_canRead_45 rfl (lv_at hl 4 rfl) ?_
          refine lv_iconst (v := 1) hx hb dX6_canRead_46 (by decide) ?_
          refine lv_iload hx hb dX6_canRead_47 (lv_at hl 6 rfl) ?_
          refine q_ishl hx hb dX6_canRead_49 ?_
          refine lv_ixor hx hb dX6_canRead_50 ?_
          refine lv_iload hx hb dX6_canRead_51 (lv_at hl 6 rfl) ?_
          obtain ⟨q6, hq6, ht⟩ := it_b ht
          refine q_ri (va_runV (As := [.ref (d1 0), .int p1, .int (p2 ^^^ (q_shl 1 x5)), .int x5]) (rest := []) ⟨hx, hb, hml, hown, hts⟩ (kX6_earliestArrival l D cI cZ cO d0 d1 T4 S1 p1 (p2 ^^^ (q_shl 1 x5)) x5 q6 hq6) (cwV 4 hts gX6_canRead_X6_earliestArrival rfl rfl rfl (by decide +kernel) ⟨Nat.le_of_ble_eq_true rfl, Nat.le_of_ble_eq_true rfl⟩) (q_rV (As := [.ref (d1 0), .int p1, .int (p2 ^^^ (q_shl 1 x5)), .int x5]) hE hP (q0 := 0) (ci := 6) rfl rfl) rfl rfl hl.1 rfl (lv_room (Nat.le_of_ble_eq_true rfl)) dX6_canRead_53 ⟨Nat.le_of_ble_eq_true rfl, Nat.le_of_ble_eq_true rfl⟩) (fun b7 => ?_)
          refine lv_istore (lv' := [(7, .int q6), (6, .int ((p2 * 8) + x5)), (0, .ref (d0 0)), (1, .ref (d1 0)), (2, .int p1), (3, .int p2), (4, .int x4), (5, .int x5)]) hx hb dX6_canRead_56 hl (by decide) rfl (fun ls hl => ?_)
          refine lv_iload hx hb dX6_canRead_58 (lv_at hl 0 rfl) ?_
          refine lv_sipush (v := 1000) hx hb dX6_canRead_60 (by decide +kernel) ?_
          refine lv_icmp_ge (tgt := 97) hx hb dX6_canRead_63 (by decide) (fun c8 => ?_) (fun c8 => ?_)
          · have ht := it_p c8 ht
            refine lv_iinc (v := x5 + 1) (lv' := [(5, .int (x5 + 1)), (7, .int q6), (6, .int ((p2 * 8) + x5)), (0, .ref (d0 0)), (1, .ref (d1 0)), (2, .int p1), (3, .int p2), (4, .int x4)]) hx hb dX6_canRead_97 hl (k := 7) rfl rfl (by decide) rfl (fun ls hl => ?_)
            refine lv_goto (tgt := 6) hx hb dX6_canRead_100 (by decide) ?_
            exact ih6 x4 (x5 + 1) T4 _ _ hP hS ls (lv_sub hl [3, 4, 5, 6, 7, 0] rfl) ht
          · have ht := it_n c8 ht
            refine lv_aload_n hx hb dX6_canRead_66 rfl (lv_at hl 3 rfl) ?_
            refine va_get (D := D) (ci := 5) (v := .ref (d1 4)) (C := RX5) (T := TX5) (N := 11) hx hb hts hi5 hown hE.1 hP 2 rfl rfl 3 (by decide) hw1 (fun _ h9 => h9) rfl dX6_canRead_67 ?_
            refine lv_iload hx hb dX6_canRead_70 (lv_at hl 7 rfl) ?_
            obtain ⟨g9, ht⟩ := it_g ht
            refine va_iald hx hb hE.1 hP 6 0 rfl rfl (q_in g9) dX6_canRead_72 ?_
            refine lv_iload hx hb dX6_canRead_73 (lv_at hl 0 rfl) ?_
            refine lv_aload_n hx hb dX6_canRead_75 rfl (lv_at hl 3 rfl) ?_
            refine va_get (D := D) (ci := 5) (v := .int (S1 9 0)) (C := RX5) (T := TX5) (N := 11) hx hb hts hi5 hown hE.1 hP 2 rfl rfl 9 (by decide) hw2 (fun _ h9 => h9) rfl dX6_canRead_76 ?_
            refine lv_imul hx hb dX6_canRead_79 ?_
            refine lv_icmp_le (tgt := 97) hx hb dX6_canRead_80 (by decide) (fun c10 => ?_) (fun c10 => ?_)
            · have ht := it_p c10 ht
              refine lv_iinc (v := x5 + 1) (lv' := [(5, .int (x5 + 1)), (7, .int q6), (6, .int ((p2 * 8) + x5)), (0, .ref (d0 0)), (1, .ref (d1 0)), (2, .int p1), (3, .int p2), (4, .int x4)]) hx hb dX6_canRead_97 hl (k := 7) rfl rfl (by decide) rfl (fun ls hl => ?_)
              refine lv_goto (tgt := 6) hx hb dX6_canRead_100 (by decide) ?_
              exact ih6 x4 (x5 + 1) T4 _ _ hP hS ls (lv_sub hl [3, 4, 5, 6, 7, 0] rfl) ht
            · have ht := it_n c10 ht
              refine lv_aload_n hx hb dX6_canRead_83 rfl (lv_at hl 2 rfl) ?_
              refine va_get (D := D) (ci := 6) (v := .ref (d0 1)) (C := RX6) (T := TX6) (N := 1) hx hb hts hi6 hown hE.1 hP 0 rfl rfl 0 (by decide) hw0 (fun _ h9 => h9) rfl dX6_canRead_84 ?_
              refine lv_iload hx hb dX6_canRead_87 (lv_at hl 1 rfl) ?_
              refine lv_iload hx hb dX6_canRead_89 (lv_at hl 0 rfl) ?_
              refine lv_iconst (v := 1) hx hb dX6_canRead_91 (by decide) ?_
              refine lv_iadd hx hb dX6_canRead_92 ?_
              refine va_iast hx hb hE.1 hP (hD _ _) hS 1 0 rfl rfl (q_in g3) dX6_canRead_93 (fun H locs hP _ hS => ?_)
              have hP : va_P D vwCl (wg6 cI cZ d0 (q_su T4 0 (((p2 * 8) + x5).toNatClampNeg) (q6 + 1)) ++ (wg5 cI cZ d1 S1)) H := hP
              obtain ⟨T11, eT11⟩ : ∃ z : St, z = q_su T4 0 (((p2 * 8) + x5).toNatClampNeg) (q6 + 1) := ⟨_, rfl⟩
              rw [← eT11] at hP
              have ht := it_l ht eT11
              refine lv_iconst (v := 1) hx hb dX6_canRead_94 (by decide) ?_
              refine lv_istore (lv' := [(4, .int 1), (7, .int q6), (6, .int ((p2 * 8) + x5)), (0, .ref (d0 0)), (1, .ref (d1 0)), (2, .int p1), (3, .int p2), (5, .int x5)]) hx hb dX6_canRead_95 hl (by decide) rfl (fun ls hl => ?_)
              refine lv_iinc (v := x5 + 1) (lv' := [(5, .int (x5 + 1)), (4, .int 1), (7, .int q6), (6, .int ((p2 * 8) + x5)), (0, .ref (d0 0)), (1, .ref (d1 0)), (2, .int p1), (3, .int p2)]) hx hb dX6_canRead_97 hl (k := 7) rfl rfl (by decide) rfl (fun ls hl => ?_)
              refine lv_goto (tgt := 6) hx hb dX6_canRead_100 (by decide) ?_
              exact ih6 1 (x5 + 1) T11 _ _ hP hS ls (lv_sub hl [4, 5, 6, 7, 1, 0] rfl) ht
  refine lv_iconst (v := 0) hx hb dX6_canRead_0 (by decide) ?_
  refine lv_istore (lv' := [(4, .int 0), (0, .ref (d0 0)), (1, .ref (d1 0)), (2, .int p1), (3, .int p2)]) hx hb dX6_canRead_1 hl (by decide) rfl (fun ls hl => ?_)
  refine lv_iconst (v := 0) hx hb dX6_canRead_3 (by decide) ?_
  refine lv_istore (lv' := [(5, .int 0), (4, .int 0), (0, .ref (d0 0)), (1, .ref (d1 0)), (2, .int p1), (3, .int p2)]) hx hb dX6_canRead_4 hl (by decide) rfl (fun ls hl => ?_)
  exact L6 5000 0 0 S0 _ _ hP hS ls (lv_sub hl [2, 3, 4, 5, 1, 0] rfl) ht
abbrev rmX6_bestStones : Room := { frames := 3, cells := 0, slots := 0, locals := 68 }
set_option maxHeartbeats 4000000 in
set_option maxRecDepth 100000 in
theorem kX6_bestStones (l : Launch) (D : va_G) (cI cZ cO : ClassId) (d0 : Nat → Nat) (d1 : Nat → Nat) (sz : Nat) (S0 : St) (S1 : St) (p1 : Int32) (tg : Int32 × St) (ht : xX6_bestStones S1 p1 S0 = some tg) : Met l yX6_bestStones wsX6_bestStones rmX6_bestStones (q_PM D cI cZ cO [.ref (d0 0), .ref (d1 0), .int p1] sz (wg6 cI cZ d0 S0 ++ (wg5 cI cZ d1 S1))) (va_Qi (fun x (_ : Unit) => x = tg.1 ∧ True) (fun _ t => va_P D vwCl (wg6 cI cZ d0 tg.2 ++ (wg5 cI cZ d1 S1)) t.heap) (va_A (wg6 cI cZ d0 S0 ++ (wg5 cI cZ d1 S1)) sz)) 0 0 (va_A (wg6 cI cZ d0 S0 ++ (wg5 cI cZ d1 S1)) sz) := by
  refine Met.ofW (cc := cX6_bestStones) (maxL := 8) (ret := (some .int)) (by decide) rfl ?_
  intro p e s m args below meth c s₁ B hml hv
  obtain ⟨rfl, hsz, hE, hP, hD0⟩ := hv
  have hx := B.exec
  have hb := B.bytes
  have hr := B.returns
  have hts := atoms_spec (ws := wsX6_bestStones) B.pre
  have hown : s.vm.findClass RX6 = some m.cls := findClass_of_methodNamed B.named
  have hlocks := B.notSynchronized
  subst hsz
  have hD1 := hD0.self (sz := s.heap.size)
  generalize hAe : va_A (wg6 cI cZ d0 S0 ++ (wg5 cI cZ d1 S1)) s.heap.size = A at hD1 ⊢
  have hA : ∀ q : Nat, s.heap.size ≤ q → A q := fun q h => by rw [← hAe]; exact Or.inr h
  have hS : va_S A s.heap s.heap [] := va_S.rf
  have hD : ∀ (S0 : St) (S1 : St), va_D A (wg6 cI cZ d0 S0 ++ (wg5 cI cZ d1 S1)) := fun S0 S1 => q_D hD1 rfl
  have hl := lv_entry ([.ref (d0 0), .ref (d1 0), .int p1]) (n := 8) (Nat.le_of_ble_eq_true rfl)
  rw [lg_entry_eq]
  generalize (lg_sl ([.ref (d0 0), .ref (d1 0), .int p1]) ++ List.replicate (8 - (lg_sl ([.ref (d0 0), .ref (d1 0), .int p1])).length) Slot.unset).toArray = ls at hl ⊢
  have hl : lv_has ls 8 [(0, .ref (d0 0)), (1, .ref (d1 0)), (2, .int p1)] := hl
  have ht := (xX6_bestStones_s S1 p1 S0).symm.trans ht
  obtain ⟨Q, hQ⟩ : ∃ Q, Q = MQ below (va_Qi (fun x (_ : Unit) => x = tg.1 ∧ True) (fun _ t => va_P D vwCl (wg6 cI cZ d0 tg.2 ++ (wg5 cI cZ d1 S1)) t.heap) A) ([.ref (d0 0), .ref (d1 0), .int p1] : List Value).toArray s 0 0 A := ⟨_, rfl⟩
  rw [← hQ]
  have L14 : ∀ (n : Nat) (x3 : Int32) (x4 : Int32) (x5 : Int32) (x6 : Int32) (S0 : St) (H : Heap) (locs : List Loc) (_ : va_P D vwCl (wg6 cI cZ d0 S0 ++ (wg5 cI cZ d1 S1)) H) (_ : va_S A s.heap H locs) (ls : Array Slot) (_ : lv_has ls 8 [(0, .ref (d0 0)), (1, .ref (d1 0)), (2, .int p1), (3, .int x3), (4, .int x4), (5, .int x5), (6, .int x6)]) (_ : xX6_bestStones_h14 S1 p1 n x3 x4 x5 x6 S0 = some tg), W p l e (headSpec wsX6_bestStones rmX6_bestStones).room s m ([.ref (d0 0), .ref (d1 0), .int p1] : List Value).toArray below meth c H locs 0 0 Q (F0 m 14 ls []) := by
    intro n
    induction n with
    | zero =>
      intro x3 x4 x5 x6 S0 H locs hP hS ls hl ht
      exact it_z ht
    | succ n14 ih14 =>
      intro x3 x4 x5 x6 S0 H locs hP hS ls hl ht
      have ht := (xX6_bestStones_h14_s S1 p1 n14 x3 x4 x5 x6 S0).symm.trans ht
      refine lv_iload hx hb dX6_bestStones_14 (lv_at hl 6 rfl) ?_
      refine lv_sipush (v := 256) hx hb dX6_bestStones_16 (by decide +kernel) ?_
      refine lv_icmp_ge (tgt := 71) hx hb dX6_bestStones_19 (by decide) (fun c3 => ?_) (fun c3 => ?_)
      · have ht := it_p c3 ht
        refine lv_iload hx hb dX6_bestStones_71 (lv_at hl 4 rfl) ?_
        subst hQ
        obtain rfl := Option.some.inj ht
        exact W.iret (v := x4) hx hb hr (fun t e1 hW => ⟨⟨_, (), rfl, ⟨rfl, trivial⟩, q_at e1 hP⟩, hS.F e1⟩) hS.2.2 dX6_bestStones_73
      · have ht := it_n c3 ht
        refine lv_iload hx hb dX6_bestStones_22 (lv_at hl 6 rfl) ?_
        refine lv_iload_n hx hb dX6_bestStones_24 rfl (lv_at hl 3 rfl) ?_
        refine lv_iconst (v := (-1)) hx hb dX6_bestStones_25 (by decide) ?_
        refine lv_ixor hx hb dX6_bestStones_26 ?_
        refine lv_iand hx hb dX6_bestStones_27 ?_
        refine lv_if_ne (tgt := 65) hx hb dX6_bestStones_28 (by decide) (fun c4 => ?_) (fun c4 => ?_)
        · have ht := it_n c4 ht
          refine lv_iinc (v := x6 + 1) (lv' := [(6, .int (x6 + 1)), (0, .ref (d0 0)), (1, .ref (d1 0)), (2, .int p1), (3, .int x3), (4, .int x4), (5, .int x5)]) hx hb dX6_bestStones_65 hl (k := 6) rfl rfl (by decide) rfl (fun ls hl => ?_)
          refine lv_goto (tgt := 14) hx hb dX6_bestStones_68 (by decide) ?_
          exact ih14 x3 x4 x5 (x6 + 1) S0 _ _ hP hS ls (lv_sub hl [1, 2, 3, 4, 5, 6, 0] rfl) ht
        · have ht := it_p c4 ht
          refine lv_aload_n hx hb dX6_bestStones_31 rfl (lv_at hl 0 rfl) ?_
          refine lv_aload_n hx hb dX6_bestStones_32 rfl (lv_at hl 1 rfl) ?_
          refine lv_iload_n hx hb dX6_bestStones_33 rfl (lv_at hl 2 rfl) ?_
          refine lv_iload hx hb dX6_bestStones_34 (lv_at hl 6 rfl) ?_
          obtain ⟨q5, hq5, ht⟩ := it_b ht
          have hFc := q_freeW (hD S0 S1) hS hA
          refine q_mi (va_runV (As := [.ref (d1 0), .int p1, .int x6]) (rest := []) ⟨hx, hb, hml, hown, hts⟩ (kX6_canRead l D cI cZ cO d0 d1 H.size S0 S1 p1 x6 q5 hq5) (cwV 3 hts gX6_bestStones_X6_canRead rfl rfl rfl (by decide +kernel) ⟨Nat.le_of_ble_eq_true rfl, Nat.le_of_ble_eq_true rfl⟩) (q_mV (As := [.ref (d1 0), .int p1, .int x6]) hE hP (hD S0 S1) (q0 := 0) (ci := 6) rfl rfl) rfl rfl hl.1 rfl (lv_room (Nat.le_of_ble_eq_true rfl)) dX6_bestStones_36 ⟨Nat.le_of_ble_eq_true rfl, Nat.le_of_ble_eq_true rfl⟩) hS hFc (fun H locs b6 hP1 hk hS => ?_)
          have hP : va_P D vwCl (wg6 cI cZ d0 q5.2 ++ (wg5 cI cZ d1 S1)) H := hP1
          refine lv_if_eq (tgt := 65) hx hb dX6_bestStones_39 (by decide) (fun c7 => ?_) (fun c7 => ?_)
          · have ht := it_p c7 ht
            refine lv_iinc (v := x6 + 1) (lv' := [(6, .int (x6 + 1)), (0, .ref (d0 0)), (1, .ref (d1 0)), (2, .int p1), (3, .int x3), (4, .int x4), (5, .int x5)]) hx hb dX6_bestStones_65 hl (k := 6) rfl rfl (by decide) rfl (fun ls hl => ?_)
            refine lv_goto (tgt := 14) hx hb dX6_bestStones_68 (by decide) ?_
            exact ih14 x3 x4 x5 (x6 + 1) q5.2 _ _ hP hS ls (lv_sub hl [1, 2, 3, 4, 5, 6, 0] rfl) ht
          · have ht := it_n c7 ht
            refine lv_aload_n hx hb dX6_bestStones_42 rfl (lv_at hl 1 rfl) ?_
            refine lv_iload hx hb dX6_bestStones_43 (lv_at hl 6 rfl) ?_
            obtain ⟨q8, hq8, ht⟩ := it_b ht
            have hPc : va_P D vwCl (wg5 cI cZ d1 S1) H := hP.sub [2, 3, 4, 5, 6, 7, 8, 9, 10, 11] rfl
            refine q_ri (va_runV (As := [.int x6]) (rest := []) ⟨hx, hb, hml, hown, hts⟩ (kX5_figuresOf l D cI cZ cO d1 S1 x6 q8 hq8) (cwV 1 hts gX6_bestStones_X5_figuresOf rfl rfl rfl (by decide +kernel) ⟨Nat.le_of_ble_eq_true rfl, Nat.le_of_ble_eq_true rfl⟩) (q_rV (As := [.int x6]) hE hPc (q0 := 0) (ci := 5) rfl rfl) rfl rfl hl.1 rfl (lv_room (Nat.le_of_ble_eq_true rfl)) dX6_bestStones_45 ⟨Nat.le_of_ble_eq_true rfl, Nat.le_of_ble_eq_true rfl⟩) (fun b9 => ?_)
            refine lv_istore (lv' := [(7, .int q8), (0, .ref (d0 0)), (1, .ref (d1 0)), (2, .int p1), (3, .int x3), (4, .int x4), (5, .int x5), (6, .int x6)]) hx hb dX6_bestStones_48 hl (by decide) rfl (fun ls hl => ?_)
            refine lv_iload hx hb dX6_bestStones_50 (lv_at hl 0 rfl) ?_
            refine lv_iload hx hb dX6_bestStones_52 (lv_at hl 6 rfl) ?_
            refine lv_icmp_le (tgt := 65) hx hb dX6_bestStones_54 (by decide) (fun c10 => ?_) (fun c10 => ?_)
            · have ht := it_p c10 ht
              refine lv_iinc (v := x6 + 1) (lv' := [(6, .int (x6 + 1)), (7, .int q8), (0, .ref (d0 0)), (1, .ref (d1 0)), (2, .int p1), (3, .int x3), (4, .int x4), (5, .int x5)]) hx hb dX6_bestStones_65 hl (k := 7) rfl rfl (by decide) rfl (fun ls hl => ?_)
              refine lv_goto (tgt := 14) hx hb dX6_bestStones_68 (by decide) ?_
              exact ih14 x3 x4 x5 (x6 + 1) q5.2 _ _ hP hS ls (lv_sub hl [2, 3, 4, 5, 6, 7, 0] rfl) ht
            · have ht := it_n c10 ht
              refine lv_iload hx hb dX6_bestStones_57 (lv_at hl 7 rfl) ?_
              refine lv_istore (lv' := [(4, .int x6), (7, .int q8), (0, .ref (d0 0)), (1, .ref (d1 0)), (2, .int p1), (3, .int x3), (5, .int x5), (6, .int x6)]) hx hb dX6_bestStones_59 hl (by decide) rfl (fun ls hl => ?_)
              refine lv_iload hx hb dX6_bestStones_61 (lv_at hl 1 rfl) ?_
              refine lv_istore (lv' := [(5, .int q8), (4, .int x6), (7, .int q8), (0, .ref (d0 0)), (1, .ref (d1 0)), (2, .int p1), (3, .int x3), (6, .int x6)]) hx hb dX6_bestStones_63 hl (by decide) rfl (fun ls hl => ?_)
              refine lv_iinc (v := x6 + 1) (lv' := [(6, .int (x6 + 1)), (5, .int q8), (4, .int x6), (7, .int q8), (0, .ref (d0 0)), (1, .ref (d1 0)), (2, .int p1), (3, .int x3)]) hx hb dX6_bestStones_65 hl (k := 7) rfl rfl (by decide) rfl (fun ls hl => ?_)
              refine lv_goto (tgt := 14) hx hb dX6_bestStones_68 (by decide) ?_
              exact ih14 x3 x6 q8 (x6 + 1) q5.2 _ _ hP hS ls (lv_sub hl [4, 5, 6, 7, 2, 1, 0] rfl) ht
  refine lv_aload_n hx hb dX6_bestStones_0 rfl (lv_at hl 1 rfl) ?_
  obtain ⟨q1, hq1, ht⟩ := it_b ht
  have hPc : va_P D vwCl (wg5 cI cZ d1 S1) s.heap := hP.sub [2, 3, 4, 5, 6, 7, 8, 9, 10, 11] rfl
  refine q_ri (va_runV (As := []) (rest := []) ⟨hx, hb, hml, hown, hts⟩ (kX5_lyingStones l D cI cZ cO d1 S1 q1 hq1) (cwV 0 hts gX6_bestStones_X5_lyingStones rfl rfl rfl (by decide +kernel) ⟨Nat.le_of_ble_eq_true rfl, Nat.le_of_ble_eq_true rfl⟩) (q_rV (As := []) hE hPc (q0 := 0) (ci := 5) rfl rfl) rfl rfl hl.1 rfl (lv_room (Nat.le_of_ble_eq_true rfl)) dX6_bestStones_1 ⟨Nat.le_of_ble_eq_true rfl, Nat.le_of_ble_eq_true rfl⟩) (fun b2 => ?_)
  refine lv_istore_n (lv' := [(3, .int q1), (0, .ref (d0 0)), (1, .ref (d1 0)), (2, .int p1)]) hx hb dX6_bestStones_4 rfl hl (by decide) rfl (fun ls hl => ?_)
  refine lv_iconst (v := 0) hx hb dX6_bestStones_5 (by decide) ?_
  refine lv_istore (lv' := [(4, .int 0), (3, .int q1), (0, .ref (d0 0)), (1, .ref (d1 0)), (2, .int p1)]) hx hb dX6_bestStones_6 hl (by decide) rfl (fun ls hl => ?_)
  refine lv_iconst (v := 0) hx hb dX6_bestStones_8 (by decide) ?_
  refine lv_istore (lv' := [(5, .int 0), (4, .int 0), (3, .int q1), (0, .ref (d0 0)), (1, .ref (d1 0)), (2, .int p1)]) hx hb dX6_bestStones_9 hl (by decide) rfl (fun ls hl => ?_)
  refine lv_iconst (v := 1) hx hb dX6_bestStones_11 (by decide) ?_
  refine lv_istore (lv' := [(6, .int 1), (5, .int 0), (4, .int 0), (3, .int q1), (0, .ref (d0 0)), (1, .ref (d1 0)), (2, .int p1)]) hx hb dX6_bestStones_12 hl (by decide) rfl (fun ls hl => ?_)
  exact L14 5000 q1 0 0 1 S0 _ _ hP hS ls (lv_sub hl [4, 5, 6, 3, 2, 1, 0] rfl) ht
abbrev rmX7_append : Room := { frames := 0, cells := 0, slots := 0, locals := 0 }
set_option maxHeartbeats 4000000 in
set_option maxRecDepth 100000 in
theorem kX7_append (l : Launch) (D : va_G) (cI cZ cO : ClassId) (d0 : Nat → Nat) (sz : Nat) (S0 : St) (p0 : Int32) (p1 : Int32) (p2 : Int32) (tg : Int32 × St) (ht : xX7_append p0 p1 p2 S0 = some tg) : Met l yX7_append wsX7_append rmX7_append (q_PM D cI cZ cO [.ref (d0 0), .int p0, .int p1, .int p2] sz (wg7 cI cZ d0 S0)) (va_Qi (fun x (_ : Unit) => x = tg.1 ∧ narrow .boolean (.int x) = .int x) (fun _ t => va_P D vwCl (wg7 cI cZ d0 tg.2) t.heap) (va_A (wg7 cI cZ d0 S0) sz)) 0 0 (va_A (wg7 cI cZ d0 S0) sz) := by
  refine Met.ofW (cc := cX7_append) (maxL := 4) (ret := (some .boolean)) (by decide) rfl ?_
  intro p e s m args below meth c s₁ B hml hv
  obtain ⟨rfl, hsz, hE, hP, hD0⟩ := hv
  have hx := B.exec
  have hb := B.bytes
  have hr := B.returns
  have hts := atoms_spec (ws := wsX7_append) B.pre
  have hown : s.vm.findClass RX7 = some m.cls := findClass_of_methodNamed B.named
  have hlocks := B.notSynchronized
  have hi7 : ∀ w ∈ u_ws RX7 TX7 4, w ∈ wsX7_append := by decide +kernel
  have hw0 := hts (.fieldLink RX7 21 "HailNames$Sights" "number" "I") (by decide +kernel)
  have hw1 := hts (.fieldLink RX7 9 "HailNames$Sights" "sets" "[I") (by decide +kernel)
  have hw2 := hts (.fieldLink RX7 15 "HailNames$Sights" "aims" "[I") (by decide +kernel)
  have hw3 := hts (.fieldLink RX7 18 "HailNames$Sights" "counts" "[I") (by decide +kernel)
  subst hsz
  have hD1 := hD0.self (sz := s.heap.size)
  generalize hAe : va_A (wg7 cI cZ d0 S0) s.heap.size = A at hD1 ⊢
  have hA : ∀ q : Nat, s.heap.size ≤ q → A q := fun q h => by rw [← hAe]; exact Or.inr h
  have hS : va_S A s.heap s.heap [] := va_S.rf
  have hD : ∀ (S0 : St), va_D A (wg7 cI cZ d0 S0) := fun S0 => q_D hD1 rfl
  have hl := lv_entry ([.ref (d0 0), .int p0, .int p1, .int p2]) (n := 4) (Nat.le_of_ble_eq_true rfl)
  rw [lg_entry_eq]
  generalize (lg_sl ([.ref (d0 0), .int p0, .int p1, .int p2]) ++ List.replicate (4 - (lg_sl ([.ref (d0 0), .int p0, .int p1, .int p2])).length) Slot.unset).toArray = ls at hl ⊢
  have hl : lv_has ls 4 [(0, .ref (d0 0)), (1, .int p0), (2, .int p1), (3, .int p2)] := hl
  have ht := (xX7_append_s p0 p1 p2 S0).symm.trans ht
  refine lv_aload_n hx hb dX7_append_0 rfl (lv_at hl 0 rfl) ?_
  refine va_get (D := D) (ci := 7) (v := .int (S0 3 0)) (C := RX7) (T := TX7) (N := 4) hx hb hts hi7 hown hE.1 hP 0 rfl rfl 3 (by decide) hw0 (fun _ h9 => h9) rfl dX7_append_1 ?_
  refine lv_bipush (v := 8) hx hb dX7_append_4 (by decide) ?_
  refine lv_icmp_lt (tgt := 11) hx hb dX7_append_6 (by decide) (fun c1 => ?_) (fun c1 => ?_)
  · have ht := it_p c1 ht
    refine lv_aload_n hx hb dX7_append_11 rfl (lv_at hl 0 rfl) ?_
    refine va_get (D := D) (ci := 7) (v := .ref (d0 1)) (C := RX7) (T := TX7) (N := 4) hx hb hts hi7 hown hE.1 hP 0 rfl rfl 0 (by decide) hw1 (fun _ h9 => h9) rfl dX7_append_12 ?_
    refine lv_aload_n hx hb dX7_append_15 rfl (lv_at hl 0 rfl) ?_
    refine va_get (D := D) (ci := 7) (v := .int (S0 3 0)) (C := RX7) (T := TX7) (N := 4) hx hb hts hi7 hown hE.1 hP 0 rfl rfl 3 (by decide) hw0 (fun _ h9 => h9) rfl dX7_append_16 ?_
    refine lv_iload_n hx hb dX7_append_19 rfl (lv_at hl 1 rfl) ?_
    obtain ⟨g2, ht⟩ := it_g ht
    refine va_iast hx hb hE.1 hP (hD _) hS 1 0 rfl rfl (q_in g2) dX7_append_20 (fun H locs hP _ hS => ?_)
    have hP : va_P D vwCl (wg7 cI cZ d0 (q_su S0 0 ((S0 3 0).toNatClampNeg) p0)) H := hP
    obtain ⟨T3, eT3⟩ : ∃ z : St, z = q_su S0 0 ((S0 3 0).toNatClampNeg) p0 := ⟨_, rfl⟩
    rw [← eT3] at hP
    have ht := it_l ht eT3
    refine lv_aload_n hx hb dX7_append_21 rfl (lv_at hl 0 rfl) ?_
    refine va_get (D := D) (ci := 7) (v := .ref (d0 2)) (C := RX7) (T := TX7) (N := 4) hx hb hts hi7 hown hE.1 hP 0 rfl rfl 1 (by decide) hw2 (fun _ h9 => h9) rfl dX7_append_22 ?_
    refine lv_aload_n hx hb dX7_append_25 rfl (lv_at hl 0 rfl) ?_
    refine va_get (D := D) (ci := 7) (v := .int (T3 3 0)) (C := RX7) (T := TX7) (N := 4) hx hb hts hi7 hown hE.1 hP 0 rfl rfl 3 (by decide) hw0 (fun _ h9 => h9) rfl dX7_append_26 ?_
    refine lv_iload_n hx hb dX7_append_29 rfl (lv_at hl 2 rfl) ?_
    obtain ⟨g4, ht⟩ := it_g ht
    refine va_iast hx hb hE.1 hP (hD _) hS 2 0 rfl rfl (q_in g4) dX7_append_30 (fun H locs hP _ hS => ?_)
    have hP : va_P D vwCl (wg7 cI cZ d0 (q_su T3 1 ((T3 3 0).toNatClampNeg) p1)) H := hP
    obtain ⟨T5, eT5⟩ : ∃ z : St, z = q_su T3 1 ((T3 3 0).toNatClampNeg) p1 := ⟨_, rfl⟩
    rw [← eT5] at hP
    have ht := it_l ht eT5
    refine lv_aload_n hx hb dX7_append_31 rfl (lv_at hl 0 rfl) ?_
    refine va_get (D := D) (ci := 7) (v := .ref (d0 3)) (C := RX7) (T := TX7) (N := 4) hx hb hts hi7 hown hE.1 hP 0 rfl rfl 2 (by decide) hw3 (fun _ h9 => h9) rfl dX7_append_32 ?_
    refine lv_aload_n hx hb dX7_append_35 rfl (lv_at hl 0 rfl) ?_
    refine va_get (D := D) (ci := 7) (v := .int (T5 3 0)) (C := RX7) (T := TX7) (N := 4) hx hb hts hi7 hown hE.1 hP 0 rfl rfl 3 (by decide) hw0 (fun _ h9 => h9) rfl dX7_append_36 ?_
    refine lv_iload_n hx hb dX7_append_39 rfl (lv_at hl 3 rfl) ?_
    obtain ⟨g6, ht⟩ := it_g ht
    refine va_iast hx hb hE.1 hP (hD _) hS 3 0 rfl rfl (q_in g6) dX7_append_40 (fun H locs hP _ hS => ?_)
    have hP : va_P D vwCl (wg7 cI cZ d0 (q_su T5 2 ((T5 3 0).toNatClampNeg) p2)) H := hP
    obtain ⟨T7, eT7⟩ : ∃ z : St, z = q_su T5 2 ((T5 3 0).toNatClampNeg) p2 := ⟨_, rfl⟩
    rw [← eT7] at hP
    have ht := it_l ht eT7
    refine lv_aload_n hx hb dX7_append_41 rfl (lv_at hl 0 rfl) ?_
    refine lv_dup hx hb dX7_append_42 rfl ?_
    refine va_get (D := D) (ci := 7) (v := .int (T7 3 0)) (C := RX7) (T := TX7) (N := 4) hx hb hts hi7 hown hE.1 hP 0 rfl rfl 3 (by decide) hw0 (fun _ h9 => h9) rfl dX7_append_43 ?_
    refine lv_iconst (v := 1) hx hb dX7_append_46 (by decide) ?_
    refine lv_iadd hx hb dX7_append_47 ?_
    refine va_put (D := D) (ci := 7) (v := .int ((T7 3 0) + 1)) (ty := .int) (C := RX7) (T := TX7) (N := 4) hx hb hts hi7 tyX7 tyX7_ok nmX7 hown hE.1 hP (hD _) hS 0 rfl rfl 3 (by decide) hw0 (fun _ h9 => h9) rfl (by decide +kernel) rfl rfl (Nat.le_of_ble_eq_true rfl) dX7_append_48 (fun H locs hP _ hS => ?_)
    have hP : va_P D vwCl (wg7 cI cZ d0 (q_su T7 3 0 ((T7 3 0) + 1))) H := hP
    obtain ⟨T8, eT8⟩ : ∃ z : St, z = q_su T7 3 0 ((T7 3 0) + 1) := ⟨_, rfl⟩
    rw [← eT8] at hP
    have ht := it_l ht eT8
    refine lv_iconst (v := 1) hx hb dX7_append_51 (by decide) ?_
    obtain rfl := Option.some.inj ht
    exact W.zret (v := 1) (ty := .boolean) hx hb hr (by decide +kernel) (fun t e1 hW => ⟨⟨_, (), rfl, ⟨rfl, (by decide +kernel)⟩, q_at e1 hP⟩, hS.F e1⟩) hS.2.2 dX7_append_52
  · have ht := it_n c1 ht
    refine lv_iconst (v := 0) hx hb dX7_append_9 (by decide) ?_
    obtain rfl := Option.some.inj ht
    exact W.zret (v := 0) (ty := .boolean) hx hb hr (by decide +kernel) (fun t e1 hW => ⟨⟨_, (), rfl, ⟨rfl, (by decide +kernel)⟩, q_at e1 hP⟩, hS.F e1⟩) hS.2.2 dX7_append_10
abbrev rmX7_copyFrom : Room := { frames := 1, cells := 0, slots := 0, locals := 60 }
set_option maxHeartbeats 4000000 in
set_option maxRecDepth 100000 in
theorem kX7_copyFrom (l : Launch) (D : va_G) (cI cZ cO : ClassId) (d0 : Nat → Nat) (d1 : Nat → Nat) (sz : Nat) (S0 : St) (S1 : St) (tg : St) (ht : xX7_copyFrom S1 S0 = some tg) : Met l yX7_copyFrom wsX7_copyFrom rmX7_copyFrom (q_PM D cI cZ cO [.ref (d0 0), .ref (d1 0)] sz (wg7 cI cZ d0 S0 ++ (wg7 cI cZ d1 S1))) (va_Qv (fun _ : Unit => True) (fun _ t => va_P D vwCl (wg7 cI cZ d0 tg ++ (wg7 cI cZ d1 S1)) t.heap) (va_A (wg7 cI cZ d0 S0 ++ (wg7 cI cZ d1 S1)) sz)) 0 0 (va_A (wg7 cI cZ d0 S0 ++ (wg7 cI cZ d1 S1)) sz) := by
  refine Met.ofW (cc := cX7_copyFrom) (maxL := 2) (ret := none) (by decide) rfl ?_
  intro p e s m args below meth c s₁ B hml hv
  obtain ⟨rfl, hsz, hE, hP, hD0⟩ := hv
  have hx := B.exec
  have hb := B.bytes
  have hr := B.returns
  have hts := atoms_spec (ws := wsX7_copyFrom) B.pre
  have hown : s.vm.findClass RX7 = some m.cls := findClass_of_methodNamed B.named
  have hlocks := B.notSynchronized
  have hi7 : ∀ w ∈ u_ws RX7 TX7 4, w ∈ wsX7_copyFrom := by decide +kernel
  have hw0 := hts (.fieldLink RX7 9 "HailNames$Sights" "sets" "[I") (by decide +kernel)
  have hw1 := hts (.methodLink RX7 25 arraycopyName) (by decide +kernel)
  have hw2 := hts (.native arraycopyName) (by decide +kernel)
  have hw3 := hts (.static arraycopyName) (by decide +kernel)
  have hw4 := hts (.initialized "java/lang/System") (by decide +kernel)
  have hw5 := hts (.fieldLink RX7 15 "HailNames$Sights" "aims" "[I") (by decide +kernel)
  have hw6 := hts (.fieldLink RX7 18 "HailNames$Sights" "counts" "[I") (by decide +kernel)
  have hw7 := hts (.fieldLink RX7 21 "HailNames$Sights" "number" "I") (by decide +kernel)
  subst hsz
  have hD1 := hD0.self (sz := s.heap.size)
  generalize hAe : va_A (wg7 cI cZ d0 S0 ++ (wg7 cI cZ d1 S1)) s.heap.size = A at hD1 ⊢
  have hA : ∀ q : Nat, s.heap.size ≤ q → A q := fun q h => by rw [← hAe]; exact Or.inr h
  have hS : va_S A s.heap s.heap [] := va_S.rf
  have hD : ∀ (S0 : St) (S1 : St), va_D A (wg7 cI cZ d0 S0 ++ (wg7 cI cZ d1 S1)) := fun S0 S1 => q_D hD1 rfl
  have hl := lv_entry ([.ref (d0 0), .ref (d1 0)]) (n := 2) (Nat.le_of_ble_eq_true rfl)
  rw [lg_entry_eq]
  generalize (lg_sl ([.ref (d0 0), .ref (d1 0)]) ++ List.replicate (2 - (lg_sl ([.ref (d0 0), .ref (d1 0)])).length) Slot.unset).toArray = ls at hl ⊢
  have hl : lv_has ls 2 [(0, .ref (d0 0)), (1, .ref (d1 0))] := hl
  have ht := (xX7_copyFrom_s S1 S0).symm.trans ht
  refine lv_aload_n hx hb dX7_copyFrom_0 rfl (lv_at hl 1 rfl) ?_
  refine va_get (D := D) (ci := 7) (v := .ref (d1 1)) (C := RX7) (T := TX7) (N := 4) hx hb hts hi7 hown hE.1 hP 4 rfl rfl 0 (by decide) hw0 (fun _ h9 => h9) rfl dX7_copyFrom_1 ?_
  refine lv_iconst (v := 0) hx hb dX7_copyFrom_4 (by decide) ?_
  refine lv_aload_n hx hb dX7_copyFrom_5 rfl (lv_at hl 0 rfl) ?_
  refine va_get (D := D) (ci := 7) (v := .ref (d0 1)) (C := RX7) (T := TX7) (N := 4) hx hb hts hi7 hown hE.1 hP 0 rfl rfl 0 (by decide) hw0 (fun _ h9 => h9) rfl dX7_copyFrom_6 ?_
  refine lv_iconst (v := 0) hx hb dX7_copyFrom_9 (by decide) ?_
  refine lv_bipush (v := 8) hx hb dX7_copyFrom_10 (by decide) ?_
  refine va_copyi (ty := .int) hx hb (hml.trans hl.1.symm) hown hw1 hw2 hw3 hw4 hE.1 hP (hD _ _) hS 5 1 0 0 rfl rfl rfl rfl rfl (by decide) (by decide) (by decide) (by decide +kernel) (by decide +kernel) (fun _ _ => rfl) (Nat.le_of_ble_eq_true rfl) (by decide +kernel) dX7_copyFrom_12 (fun H locs hP _ hS => ?_)
  have hP : va_P D vwCl (wg7 cI cZ d0 (q_sr S0 0 (va_cpy (S1 0) (S0 0) (0 : Int32).toNatClampNeg (0 : Int32).toNatClampNeg (8 : Int32).toNatClampNeg)) ++ (wg7 cI cZ d1 S1)) H := hP
  obtain ⟨T1, eT1⟩ : ∃ z : St, z = q_sr S0 0 (va_cpy (S1 0) (S0 0) (0 : Int32).toNatClampNeg (0 : Int32).toNatClampNeg (8 : Int32).toNatClampNeg) := ⟨_, rfl⟩
  rw [← eT1] at hP
  have ht := it_l ht eT1
  refine lv_aload_n hx hb dX7_copyFrom_15 rfl (lv_at hl 1 rfl) ?_
  refine va_get (D := D) (ci := 7) (v := .ref (d1 2)) (C := RX7) (T := TX7) (N := 4) hx hb hts hi7 hown hE.1 hP 4 rfl rfl 1 (by decide) hw5 (fun _ h9 => h9) rfl dX7_copyFrom_16 ?_
  refine lv_iconst (v := 0) hx hb dX7_copyFrom_19 (by decide) ?_
  refine lv_aload_n hx hb dX7_copyFrom_20 rfl (lv_at hl 0 rfl) ?_
  refine va_get (D := D) (ci := 7) (v := .ref (d0 2)) (C := RX7) (T := TX7) (N := 4) hx hb hts hi7 hown hE.1 hP 0 rfl rfl 1 (by decide) hw5 (fun _ h9 => h9) rfl dX7_copyFrom_21 ?_
  refine lv_iconst (v := 0) hx hb dX7_copyFrom_24 (by decide) ?_
  refine lv_bipush (v := 8) hx hb dX7_copyFrom_25 (by decide) ?_
  refine va_copyi (ty := .int) hx hb (hml.trans hl.1.symm) hown hw1 hw2 hw3 hw4 hE.1 hP (hD _ _) hS 6 2 0 0 rfl rfl rfl rfl rfl (by decide) (by decide) (by decide) (by decide +kernel) (by decide +kernel) (fun _ _ => rfl) (Nat.le_of_ble_eq_true rfl) (by decide +kernel) dX7_copyFrom_27 (fun H locs hP _ hS => ?_)
  have hP : va_P D vwCl (wg7 cI cZ d0 (q_sr T1 1 (va_cpy (S1 1) (T1 1) (0 : Int32).toNatClampNeg (0 : Int32).toNatClampNeg (8 : Int32).toNatClampNeg)) ++ (wg7 cI cZ d1 S1)) H := hP
  obtain ⟨T2, eT2⟩ : ∃ z : St, z = q_sr T1 1 (va_cpy (S1 1) (T1 1) (0 : Int32).toNatClampNeg (0 : Int32).toNatClampNeg (8 : Int32).toNatClampNeg) := ⟨_, rfl⟩
  rw [← eT2] at hP
  have ht := it_l ht eT2
  refine lv_aload_n hx hb dX7_copyFrom_30 rfl (lv_at hl 1 rfl) ?_
  refine va_get (D := D) (ci := 7) (v := .ref (d1 3)) (C := RX7) (T := TX7) (N := 4) hx hb hts hi7 hown hE.1 hP 4 rfl rfl 2 (by decide) hw6 (fun _ h9 => h9) rfl dX7_copyFrom_31 ?_
  refine lv_iconst (v := 0) hx hb dX7_copyFrom_34 (by decide) ?_
  refine lv_aload_n hx hb dX7_copyFrom_35 rfl (lv_at hl 0 rfl) ?_
  refine va_get (D := D) (ci := 7) (v := .ref (d0 3)) (C := RX7) (T := TX7) (N := 4) hx hb hts hi7 hown hE.1 hP 0 rfl rfl 2 (by decide) hw6 (fun _ h9 => h9) rfl dX7_copyFrom_36 ?_
  refine lv_iconst (v := 0) hx hb dX7_copyFrom_39 (by decide) ?_
  refine lv_bipush (v := 8) hx hb dX7_copyFrom_40 (by decide) ?_
  refine va_copyi (ty := .int) hx hb (hml.trans hl.1.symm) hown hw1 hw2 hw3 hw4 hE.1 hP (hD _ _) hS 7 3 0 0 rfl rfl rfl rfl rfl (by decide) (by decide) (by decide) (by decide +kernel) (by decide +kernel) (fun _ _ => rfl) (Nat.le_of_ble_eq_true rfl) (by decide +kernel) dX7_copyFrom_42 (fun H locs hP _ hS => ?_)
  have hP : va_P D vwCl (wg7 cI cZ d0 (q_sr T2 2 (va_cpy (S1 2) (T2 2) (0 : Int32).toNatClampNeg (0 : Int32).toNatClampNeg (8 : Int32).toNatClampNeg)) ++ (wg7 cI cZ d1 S1)) H := hP
  obtain ⟨T3, eT3⟩ : ∃ z : St, z = q_sr T2 2 (va_cpy (S1 2) (T2 2) (0 : Int32).toNatClampNeg (0 : Int32).toNatClampNeg (8 : Int32).toNatClampNeg) := ⟨_, rfl⟩
  rw [← eT3] at hP
  have ht := it_l ht eT3
  refine lv_aload_n hx hb dX7_copyFrom_45 rfl (lv_at hl 0 rfl) ?_
  refine lv_aload_n hx hb dX7_copyFrom_46 rfl (lv_at hl 1 rfl) ?_
  refine va_get (D := D) (ci := 7) (v := .int (S1 3 0)) (C := RX7) (T := TX7) (N := 4) hx hb hts hi7 hown hE.1 hP 4 rfl rfl 3 (by decide) hw7 (fun _ h9 => h9) rfl dX7_copyFrom_47 ?_
  refine va_put (D := D) (ci := 7) (v := .int (S1 3 0)) (ty := .int) (C := RX7) (T := TX7) (N := 4) hx hb hts hi7 tyX7 tyX7_ok nmX7 hown hE.1 hP (hD _ _) hS 0 rfl rfl 3 (by decide) hw7 (fun _ h9 => h9) rfl (by decide +kernel) rfl rfl (Nat.le_of_ble_eq_true rfl) dX7_copyFrom_50 (fun H locs hP _ hS => ?_)
  have hP : va_P D vwCl (wg7 cI cZ d0 (q_su T3 3 0 (S1 3 0)) ++ (wg7 cI cZ d1 S1)) H := hP
  obtain ⟨T4, eT4⟩ : ∃ z : St, z = q_su T3 3 0 (S1 3 0) := ⟨_, rfl⟩
  rw [← eT4] at hP
  have ht := it_l ht eT4
  obtain rfl := Option.some.inj ht
  exact W.vret hx hb hr (fun t e1 hW => ⟨⟨(), rfl, trivial, q_at e1 hP⟩, hS.F e1⟩) hS.2.2 dX7_copyFrom_53
abbrev rmX8_person : Room := { frames := 2, cells := 0, slots := 0, locals := 42 }
set_option maxHeartbeats 4000000 in
set_option maxRecDepth 100000 in
theorem kX8_person (l : Launch) (D : va_G) (cI cZ cO : ClassId) (dd : Nat → Nat → Nat) (sz : Nat) (S0 : St) (p0 : Int32) (p1 : Int32) (p2 : Int32) (tg : Int32 × St) (ht : xX8_person p0 p1 p2 S0 = some tg) : Met l yX8_person wsX8_person rmX8_person (q_PM D cI cZ cO [.ref (dd 14 0), .int p0, .int p1, .int p2] sz (wg5 cI cZ (dd 0) S0 ++ (wg8 dd))) (va_Qi (fun x (_ : Unit) => x = tg.1 ∧ True) (fun _ t => va_P D vwCl (wg5 cI cZ (dd 0) tg.2 ++ (wg8 dd)) t.heap) (va_A (wg5 cI cZ (dd 0) S0 ++ (wg8 dd)) sz)) 0 0 (va_A (wg5 cI cZ (dd 0) S0 ++ (wg8 dd)) sz) := by
  refine Met.ofW (cc := cX8_person) (maxL := 5) (ret := (some .int)) (by decide) rfl ?_
  intro p e s m args below meth c s₁ B hml hv
  obtain ⟨rfl, hsz, hE, hP, hD0⟩ := hv
  have hx := B.exec
  have hb := B.bytes
  have hr := B.returns
  have hts := atoms_spec (ws := wsX8_person) B.pre
  have hown : s.vm.findClass RX8 = some m.cls := findClass_of_methodNamed B.named
  have hlocks := B.notSynchronized
  have hi8 : ∀ w ∈ u_ws RX8 TX8 7, w ∈ wsX8_person := by decide +kernel
  have hi5 : ∀ w ∈ u_ws RX5 TX5 11, w ∈ wsX8_person := by decide +kernel
  have hw0 := hts (.fieldLink RX8 10 "HailNames" "now" "LHailNames$Plain;") (by decide +kernel)
  have hw1 := hts (.fieldLink RX8 66 "HailNames$Plain" "count" "[I") (by decide +kernel)
  have hw2 := hts (.fieldLink RX8 70 "HailNames$Plain" "noted" "[I") (by decide +kernel)
  subst hsz
  have hD1 := hD0.self (sz := s.heap.size)
  generalize hAe : va_A (wg5 cI cZ (dd 0) S0 ++ (wg8 dd)) s.heap.size = A at hD1 ⊢
  have hA : ∀ q : Nat, s.heap.size ≤ q → A q := fun q h => by rw [← hAe]; exact Or.inr h
  have hS : va_S A s.heap s.heap [] := va_S.rf
  have hD : ∀ (S0 : St), va_D A (wg5 cI cZ (dd 0) S0 ++ (wg8 dd)) := fun S0 => q_D hD1 rfl
  have hl := lv_entry ([.ref (dd 14 0), .int p0, .int p1, .int p2]) (n := 5) (Nat.le_of_ble_eq_true rfl)
  rw [lg_entry_eq]
  generalize (lg_sl ([.ref (dd 14 0), .int p0, .int p1, .int p2]) ++ List.replicate (5 - (lg_sl ([.ref (dd 14 0), .int p0, .int p1, .int p2])).length) Slot.unset).toArray = ls at hl ⊢
  have hl : lv_has ls 5 [(0, .ref (dd 14 0)), (1, .int p0), (2, .int p1), (3, .int p2)] := hl
  have ht := (xX8_person_s p0 p1 p2 S0).symm.trans ht
  refine lv_iload_n hx hb dX8_person_0 rfl (lv_at hl 1 rfl) ?_
  refine q_ri (va_runS (As := [.int p0]) (rest := []) ⟨hx, hb, hml, hown, hts⟩ (kX8_isPerson l D cI cZ cO p0) (va_cwS 1 hts gX8_person_X8_isPerson rfl rfl rfl (by decide +kernel) ⟨Nat.le_of_ble_eq_true rfl, Nat.le_of_ble_eq_true rfl⟩) (q_rS hE q_nil) rfl rfl hl.1 rfl (lv_room (Nat.le_of_ble_eq_true rfl)) dX8_person_1 ⟨Nat.le_of_ble_eq_true rfl, Nat.le_of_ble_eq_true rfl⟩) (fun b1 => ?_)
  refine lv_if_ne (tgt := 9) hx hb dX8_person_4 (by decide) (fun c2 => ?_) (fun c2 => ?_)
  · have ht := it_n c2 ht
    refine lv_iload_n hx hb dX8_person_9 rfl (lv_at hl 2 rfl) ?_
    refine lv_iconst (v := 0) hx hb dX8_person_10 (by decide) ?_
    refine lv_bipush (v := 99) hx hb dX8_person_11 (by decide) ?_
    refine q_ri (va_runS (As := [.int p1, .int 0, .int 99]) (rest := []) ⟨hx, hb, hml, hown, hts⟩ (kX8_within l D cI cZ cO p1 0 99) (va_cwS 3 hts gX8_person_X8_within rfl rfl rfl (by decide +kernel) ⟨Nat.le_of_ble_eq_true rfl, Nat.le_of_ble_eq_true rfl⟩) (q_rS hE q_nil) rfl rfl hl.1 rfl (lv_room (Nat.le_of_ble_eq_true rfl)) dX8_person_13 ⟨Nat.le_of_ble_eq_true rfl, Nat.le_of_ble_eq_true rfl⟩) (fun b3 => ?_)
    refine lv_if_eq (tgt := 29) hx hb dX8_person_16 (by decide) (fun c4 => ?_) (fun c4 => ?_)
    · have ht := it_p c4 ht
      refine lv_bipush (v := (-2)) hx hb dX8_person_29 (by decide) ?_
      obtain rfl := Option.some.inj ht
      exact W.iret (v := (-2)) hx hb hr (fun t e1 hW => ⟨⟨_, (), rfl, ⟨rfl, trivial⟩, q_at e1 hP⟩, hS.F e1⟩) hS.2.2 dX8_person_31
    · have ht := it_n c4 ht
      refine lv_iload_n hx hb dX8_person_19 rfl (lv_at hl 3 rfl) ?_
      refine lv_iconst (v := 0) hx hb dX8_person_20 (by decide) ?_
      refine lv_bipush (v := 99) hx hb dX8_person_21 (by decide) ?_
      refine q_ri (va_runS (As := [.int p2, .int 0, .int 99]) (rest := []) ⟨hx, hb, hml, hown, hts⟩ (kX8_within l D cI cZ cO p2 0 99) (va_cwS 3 hts gX8_person_X8_within rfl rfl rfl (by decide +kernel) ⟨Nat.le_of_ble_eq_true rfl, Nat.le_of_ble_eq_true rfl⟩) (q_rS hE q_nil) rfl rfl hl.1 rfl (lv_room (Nat.le_of_ble_eq_true rfl)) dX8_person_23 ⟨Nat.le_of_ble_eq_true rfl, Nat.le_of_ble_eq_true rfl⟩) (fun b5 => ?_)
      refine lv_if_ne (tgt := 32) hx hb dX8_person_26 (by decide) (fun c6 => ?_) (fun c6 => ?_)
      · have ht := it_n c6 ht
        refine lv_bipush (v := 100) hx hb dX8_person_32 (by decide) ?_
        refine lv_aload_n hx hb dX8_person_34 rfl (lv_at hl 0 rfl) ?_
        refine va_get (D := D) (ci := 8) (v := .ref (dd 0 0)) (C := RX8) (T := TX8) (N := 7) hx hb hts hi8 hown hE.1 hP 10 rfl rfl 0 (by decide) hw0 (fun _ h9 => h9) rfl dX8_person_35 ?_
        refine va_get (D := D) (ci := 5) (v := .ref (dd 0 1)) (C := RX5) (T := TX5) (N := 11) hx hb hts hi5 hown hE.1 hP 0 rfl rfl 0 (by decide) hw1 (fun _ h9 => h9) rfl dX8_person_38 ?_
        refine lv_iload_n hx hb dX8_person_41 rfl (lv_at hl 1 rfl) ?_
        obtain ⟨g7, ht⟩ := it_g ht
        refine va_iald hx hb hE.1 hP 1 0 rfl rfl (q_in g7) dX8_person_42 ?_
        refine lv_imul hx hb dX8_person_43 ?_
        refine lv_aload_n hx hb dX8_person_44 rfl (lv_at hl 0 rfl) ?_
        refine va_get (D := D) (ci := 8) (v := .ref (dd 0 0)) (C := RX8) (T := TX8) (N := 7) hx hb hts hi8 hown hE.1 hP 10 rfl rfl 0 (by decide) hw0 (fun _ h9 => h9) rfl dX8_person_45 ?_
        refine va_get (D := D) (ci := 5) (v := .ref (dd 0 2)) (C := RX5) (T := TX5) (N := 11) hx hb hts hi5 hown hE.1 hP 0 rfl rfl 1 (by decide) hw2 (fun _ h9 => h9) rfl dX8_person_48 ?_
        refine lv_iload_n hx hb dX8_person_51 rfl (lv_at hl 1 rfl) ?_
        refine va_iald hx hb hE.1 hP 2 0 rfl rfl (q_in g7) dX8_person_52 ?_
        refine lv_iadd hx hb dX8_person_53 ?_
        refine lv_topi (fun y8 ey8 => ?_)
        have ht := it_l ht ey8
        refine lv_istore (lv' := [(4, .int y8), (0, .ref (dd 14 0)), (1, .int p0), (2, .int p1), (3, .int p2)]) hx hb dX8_person_54 hl (by decide) rfl (fun ls hl => ?_)
        refine lv_aload_n hx hb dX8_person_56 rfl (lv_at hl 1 rfl) ?_
        refine va_get (D := D) (ci := 8) (v := .ref (dd 0 0)) (C := RX8) (T := TX8) (N := 7) hx hb hts hi8 hown hE.1 hP 10 rfl rfl 0 (by decide) hw0 (fun _ h9 => h9) rfl dX8_person_57 ?_
        refine va_get (D := D) (ci := 5) (v := .ref (dd 0 1)) (C := RX5) (T := TX5) (N := 11) hx hb hts hi5 hown hE.1 hP 0 rfl rfl 0 (by decide) hw1 (fun _ h9 => h9) rfl dX8_person_60 ?_
        refine lv_iload_n hx hb dX8_person_63 rfl (lv_at hl 2 rfl) ?_
        refine lv_iload_n hx hb dX8_person_64 rfl (lv_at hl 3 rfl) ?_
        refine va_iast hx hb hE.1 hP (hD _) hS 1 0 rfl rfl (q_in g7) dX8_person_65 (fun H locs hP _ hS => ?_)
        have hP : va_P D vwCl (wg5 cI cZ (dd 0) (q_su S0 0 p0.toNatClampNeg p1) ++ (wg8 dd)) H := hP
        obtain ⟨T9, eT9⟩ : ∃ z : St, z = q_su S0 0 p0.toNatClampNeg p1 := ⟨_, rfl⟩
        rw [← eT9] at hP
        have ht := it_l ht eT9
        refine lv_aload_n hx hb dX8_person_66 rfl (lv_at hl 1 rfl) ?_
        refine va_get (D := D) (ci := 8) (v := .ref (dd 0 0)) (C := RX8) (T := TX8) (N := 7) hx hb hts hi8 hown hE.1 hP 10 rfl rfl 0 (by decide) hw0 (fun _ h9 => h9) rfl dX8_person_67 ?_
        refine va_get (D := D) (ci := 5) (v := .ref (dd 0 2)) (C := RX5) (T := TX5) (N := 11) hx hb hts hi5 hown hE.1 hP 0 rfl rfl 1 (by decide) hw2 (fun _ h9 => h9) rfl dX8_person_70 ?_
        refine lv_iload_n hx hb dX8_person_73 rfl (lv_at hl 2 rfl) ?_
        refine lv_iload_n hx hb dX8_person_74 rfl (lv_at hl 4 rfl) ?_
        refine va_iast hx hb hE.1 hP (hD _) hS 2 0 rfl rfl (q_in g7) dX8_person_75 (fun H locs hP _ hS => ?_)
        have hP : va_P D vwCl (wg5 cI cZ (dd 0) (q_su T9 1 p0.toNatClampNeg p2) ++ (wg8 dd)) H := hP
        obtain ⟨T10, eT10⟩ : ∃ z : St, z = q_su T9 1 p0.toNatClampNeg p2 := ⟨_, rfl⟩
        rw [← eT10] at hP
        have ht := it_l ht eT10
        refine lv_iload hx hb dX8_person_76 (lv_at hl 0 rfl) ?_
        obtain rfl := Option.some.inj ht
        exact W.iret (v := y8) hx hb hr (fun t e1 hW => ⟨⟨_, (), rfl, ⟨rfl, trivial⟩, q_at e1 hP⟩, hS.F e1⟩) hS.2.2 dX8_person_78
      · have ht := it_p c6 ht
        refine lv_bipush (v := (-2)) hx hb dX8_person_29 (by decide) ?_
        obtain rfl := Option.some.inj ht
        exact W.iret (v := (-2)) hx hb hr (fun t e1 hW => ⟨⟨_, (), rfl, ⟨rfl, trivial⟩, q_at e1 hP⟩, hS.F e1⟩) hS.2.2 dX8_person_31
  · have ht := it_p c2 ht
    refine lv_iconst (v := (-1)) hx hb dX8_person_7 (by decide) ?_
    obtain rfl := Option.some.inj ht
    exact W.iret (v := (-1)) hx hb hr (fun t e1 hW => ⟨⟨_, (), rfl, ⟨rfl, trivial⟩, q_at e1 hP⟩, hS.F e1⟩) hS.2.2 dX8_person_8
abbrev rmX8_stone : Room := { frames := 2, cells := 0, slots := 0, locals := 42 }
set_option maxHeartbeats 4000000 in
set_option maxRecDepth 100000 in
theorem kX8_stone (l : Launch) (D : va_G) (cI cZ cO : ClassId) (dd : Nat → Nat → Nat) (sz : Nat) (S0 : St) (p0 : Int32) (p1 : Int32) (p2 : Int32) (p3 : Int32) (tg : Int32 × St) (ht : xX8_stone p0 p1 p2 p3 S0 = some tg) : Met l yX8_stone wsX8_stone rmX8_stone (q_PM D cI cZ cO [.ref (dd 14 0), .int p0, .int p1, .int p2, .int p3] sz (wg5 cI cZ (dd 0) S0 ++ (wg8 dd))) (va_Qi (fun x (_ : Unit) => x = tg.1 ∧ True) (fun _ t => va_P D vwCl (wg5 cI cZ (dd 0) tg.2 ++ (wg8 dd)) t.heap) (va_A (wg5 cI cZ (dd 0) S0 ++ (wg8 dd)) sz)) 0 0 (va_A (wg5 cI cZ (dd 0) S0 ++ (wg8 dd)) sz) := by
  refine Met.ofW (cc := cX8_stone) (maxL := 8) (ret := (some .int)) (by decide) rfl ?_
  intro p e s m args below meth c s₁ B hml hv
  obtain ⟨rfl, hsz, hE, hP, hD0⟩ := hv
  have hx := B.exec
  have hb := B.bytes
  have hr := B.returns
  have hts := atoms_spec (ws := wsX8_stone) B.pre
  have hown : s.vm.findClass RX8 = some m.cls := findClass_of_methodNamed B.named
  have hlocks := B.notSynchronized
  have hi8 : ∀ w ∈ u_ws RX8 TX8 7, w ∈ wsX8_stone := by decide +kernel
  have hi5 : ∀ w ∈ u_ws RX5 TX5 11, w ∈ wsX8_stone := by decide +kernel
  have hw0 := hts (.fieldLink RX8 10 "HailNames" "now" "LHailNames$Plain;") (by decide +kernel)
  have hw1 := hts (.fieldLink RX8 76 "HailNames$Plain" "cell" "[I") (by decide +kernel)
  subst hsz
  have hD1 := hD0.self (sz := s.heap.size)
  generalize hAe : va_A (wg5 cI cZ (dd 0) S0 ++ (wg8 dd)) s.heap.size = A at hD1 ⊢
  have hA : ∀ q : Nat, s.heap.size ≤ q → A q := fun q h => by rw [← hAe]; exact Or.inr h
  have hS : va_S A s.heap s.heap [] := va_S.rf
  have hD : ∀ (S0 : St), va_D A (wg5 cI cZ (dd 0) S0 ++ (wg8 dd)) := fun S0 => q_D hD1 rfl
  have hl := lv_entry ([.ref (dd 14 0), .int p0, .int p1, .int p2, .int p3]) (n := 8) (Nat.le_of_ble_eq_true rfl)
  rw [lg_entry_eq]
  generalize (lg_sl ([.ref (dd 14 0), .int p0, .int p1, .int p2, .int p3]) ++ List.replicate (8 - (lg_sl ([.ref (dd 14 0), .int p0, .int p1, .int p2, .int p3])).length) Slot.unset).toArray = ls at hl ⊢
  have hl : lv_has ls 8 [(0, .ref (dd 14 0)), (1, .int p0), (2, .int p1), (3, .int p2), (4, .int p3)] := hl
  have ht := (xX8_stone_s p0 p1 p2 p3 S0).symm.trans ht
  obtain ⟨Q, hQ⟩ : ∃ Q, Q = MQ below (va_Qi (fun x (_ : Unit) => x = tg.1 ∧ True) (fun _ t => va_P D vwCl (wg5 cI cZ (dd 0) tg.2 ++ (wg8 dd)) t.heap) A) ([.ref (dd 14 0), .int p0, .int p1, .int p2, .int p3] : List Value).toArray s 0 0 A := ⟨_, rfl⟩
  rw [← hQ]
  have J28 : ∀ (z0 : Int32) (S0 : St) (H : Heap) (locs : List Loc) (_ : va_P D vwCl (wg5 cI cZ (dd 0) S0 ++ (wg8 dd)) H) (_ : va_S A s.heap H locs) (ls : Array Slot) (_ : lv_has ls 8 [(0, .ref (dd 14 0)), (1, .int p0), (2, .int p1), (3, .int p2), (4, .int p3)]) (_ : xX8_stone_h28 p0 p1 p2 p3 z0 S0 = some tg), W p l e (headSpec wsX8_stone rmX8_stone).room s m ([.ref (dd 14 0), .int p0, .int p1, .int p2, .int p3] : List Value).toArray below meth c H locs 0 0 Q (F0 m 28 ls [.int z0]) := by
    intro z0 S0 H locs hP hS ls hl ht
    have ht := (xX8_stone_h28_s p0 p1 p2 p3 z0 S0).symm.trans ht
    have J63 : ∀ (x5 : Int32) (z0 : Int32) (S0 : St) (H : Heap) (locs : List Loc) (_ : va_P D vwCl (wg5 cI cZ (dd 0) S0 ++ (wg8 dd)) H) (_ : va_S A s.heap H locs) (ls : Array Slot) (_ : lv_has ls 8 [(0, .ref (dd 14 0)), (1, .int p0), (2, .int p1), (3, .int p2), (4, .int p3), (5, .int x5)]) (_ : xX8_stone_h63 p0 p1 p2 p3 x5 z0 S0 = some tg), W p l e (headSpec wsX8_stone rmX8_stone).room s m ([.ref (dd 14 0), .int p0, .int p1, .int p2, .int p3] : List Value).toArray below meth c H locs 0 0 Q (F0 m 63 ls [.int z0]) := by
      intro x5 z0 S0 H locs hP hS ls hl ht
      have ht := (xX8_stone_h63_s p0 p1 p2 p3 x5 z0 S0).symm.trans ht
      have J78 : ∀ (x5 : Int32) (S0 : St) (H : Heap) (locs : List Loc) (_ : va_P D vwCl (wg5 cI cZ (dd 0) S0 ++ (wg8 dd)) H) (_ : va_S A s.heap H locs) (ls : Array Slot) (_ : lv_has ls 8 [(0, .ref (dd 14 0)), (1, .int p0), (2, .int p1), (3, .int p2), (4, .int p3), (5, .int x5)]) (_ : xX8_stone_h78 p0 p1 p2 p3 x5 S0 = some tg), W p l e (headSpec wsX8_stone rmX8_stone).room s m ([.ref (dd 14 0), .int p0, .int p1, .int p2, .int p3] : List Value).toArray below meth c H locs 0 0 Q (F0 m 78 ls []) := by
        intro x5 S0 H locs hP hS ls hl ht
        have ht := (xX8_stone_h78_s p0 p1 p2 p3 x5 S0).symm.trans ht
        have J105 : ∀ (x7 : Int32) (z1 : Int32) (z2 : Int32) (S0 : St) (H : Heap) (locs : List Loc) (_ : va_P D vwCl (wg5 cI cZ (dd 0) S0 ++ (wg8 dd)) H) (_ : va_S A s.heap H locs) (ls : Array Slot) (_ : lv_has ls 8 [(3, .int p2), (4, .int p3), (7, .int x7)]) (_ : xX8_stone_h105 p0 p1 p2 p3 x7 z1 z2 S0 = some tg), W p l e (headSpec wsX8_stone rmX8_stone).room s m ([.ref (dd 14 0), .int p0, .int p1, .int p2, .int p3] : List Value).toArray below meth c H locs 0 0 Q (F0 m 105 ls [.int z2, .int z1, .ref (dd 0 0)]) := by
          intro x7 z1 z2 S0 H locs hP hS ls hl ht
          have ht := (xX8_stone_h105_s p0 p1 p2 p3 x7 z1 z2 S0).symm.trans ht
          refine lv_iload_n hx hb dX8_stone_105 rfl (lv_at hl 0 rfl) ?_
          refine lv_iload hx hb dX8_stone_106 (lv_at hl 1 rfl) ?_
          obtain ⟨q16, hq16, ht⟩ := it_b ht
          have hPc : va_P D vwCl (wg5 cI cZ (dd 0) S0) H := hP.sub [0, 1, 2, 3, 4, 5, 6, 7, 8, 9] rfl
          have hDc : va_D A (wg5 cI cZ (dd 0) S0) := ((hD S0)).sub [0, 1, 2, 3, 4, 5, 6, 7, 8, 9] (by decide) rfl
          have hFc := va_free (wc := (wg5 cI cZ (dd 0) S0)) (hD S0) hS hA [0, 1, 2, 3, 4, 5, 6, 7, 8, 9] rfl
          refine q_mv (va_runV (As := [.int z1, .int z2, .int p2, .int p3]) (rest := []) ⟨hx, hb, hml, hown, hts⟩ (kX5_put l D cI cZ cO (dd 0) H.size S0 z1 z2 p2 p3 q16 hq16) (cwV 4 hts gX8_stone_X5_put rfl rfl rfl (by decide +kernel) ⟨Nat.le_of_ble_eq_true rfl, Nat.le_of_ble_eq_true rfl⟩) (q_mV (As := [.int z1, .int z2, .int p2, .int p3]) hE hPc hDc (q0 := 0) (ci := 5) rfl rfl) rfl rfl hl.1 rfl (lv_room (Nat.le_of_ble_eq_true rfl)) dX8_stone_108 ⟨Nat.le_of_ble_eq_true rfl, Nat.le_of_ble_eq_true rfl⟩) hS hFc (fun H locs hP1 hk hS => ?_)
          have hP : va_P D vwCl (wg5 cI cZ (dd 0) q16 ++ (wg8 dd)) H := (q_join (wr := (wg8 dd)) hP (hD S0) [0, 1, 2, 3, 4, 5, 6, 7, 8, 9] [10] rfl rfl (by decide) (by decide) hk hFc hP1 hDc rfl).sub [1, 2, 3, 4, 5, 6, 7, 8, 9, 10, 0] rfl
          refine lv_iload hx hb dX8_stone_111 (lv_at hl 2 rfl) ?_
          subst hQ
          obtain rfl := Option.some.inj ht
          exact W.iret (v := x7) hx hb hr (fun t e1 hW => ⟨⟨_, (), rfl, ⟨rfl, trivial⟩, q_at e1 hP⟩, hS.F e1⟩) hS.2.2 dX8_stone_113
        refine lv_aload_n hx hb dX8_stone_78 rfl (lv_at hl 0 rfl) ?_
        refine va_get (D := D) (ci := 8) (v := .ref (dd 0 0)) (C := RX8) (T := TX8) (N := 7) hx hb hts hi8 hown hE.1 hP 10 rfl rfl 0 (by decide) hw0 (fun _ h9 => h9) rfl dX8_stone_79 ?_
        refine va_get (D := D) (ci := 5) (v := .ref (dd 0 3)) (C := RX5) (T := TX5) (N := 11) hx hb hts hi5 hown hE.1 hP 0 rfl rfl 2 (by decide) hw1 (fun _ h9 => h9) rfl dX8_stone_82 ?_
        refine lv_iload_n hx hb dX8_stone_85 rfl (lv_at hl 1 rfl) ?_
        obtain ⟨g14, ht⟩ := it_g ht
        refine va_iald hx hb hE.1 hP 3 0 rfl rfl (q_in g14) dX8_stone_86 ?_
        refine lv_istore (lv' := [(7, .int (S0 2 p0.toNatClampNeg)), (0, .ref (dd 14 0)), (1, .int p0), (2, .int p1), (3, .int p2), (4, .int p3), (5, .int x5)]) hx hb dX8_stone_87 hl (by decide) rfl (fun ls hl => ?_)
        refine lv_aload_n hx hb dX8_stone_89 rfl (lv_at hl 1 rfl) ?_
        refine va_get (D := D) (ci := 8) (v := .ref (dd 0 0)) (C := RX8) (T := TX8) (N := 7) hx hb hts hi8 hown hE.1 hP 10 rfl rfl 0 (by decide) hw0 (fun _ h9 => h9) rfl dX8_stone_90 ?_
        refine lv_iload_n hx hb dX8_stone_93 rfl (lv_at hl 2 rfl) ?_
        refine lv_iload hx hb dX8_stone_94 (lv_at hl 6 rfl) ?_
        refine lv_if_eq (tgt := 104) hx hb dX8_stone_96 (by decide) (fun c15 => ?_) (fun c15 => ?_)
        · have ht := it_p c15 ht
          refine lv_iload_n hx hb dX8_stone_104 rfl (lv_at hl 3 rfl) ?_
          exact J105 (S0 2 p0.toNatClampNeg) p0 p1 S0 _ _ hP hS ls (lv_sub hl [4, 5, 0] rfl) ht
        · have ht := it_n c15 ht
          refine lv_bipush (v := (-6)) hx hb dX8_stone_99 (by decide) ?_
          refine lv_goto (tgt := 105) hx hb dX8_stone_101 (by decide) ?_
          exact J105 (S0 2 p0.toNatClampNeg) p0 (-6) S0 _ _ hP hS ls (lv_sub hl [4, 5, 0] rfl) ht
      refine lv_istore (lv' := [(6, .int z0), (0, .ref (dd 14 0)), (1, .int p0), (2, .int p1), (3, .int p2), (4, .int p3), (5, .int x5)]) hx hb dX8_stone_63 hl (by decide) rfl (fun ls hl => ?_)
      refine lv_iload hx hb dX8_stone_65 (lv_at hl 6 rfl) ?_
      refine lv_if_ne (tgt := 78) hx hb dX8_stone_67 (by decide) (fun c12 => ?_) (fun c12 => ?_)
      · have ht := it_n c12 ht
        exact J78 x5 S0 _ _ hP hS ls (lv_sub hl [1, 2, 3, 4, 5, 6] rfl) ht
      · have ht := it_p c12 ht
        refine lv_iload hx hb dX8_stone_70 (lv_at hl 0 rfl) ?_
        refine lv_if_ne (tgt := 78) hx hb dX8_stone_72 (by decide) (fun c13 => ?_) (fun c13 => ?_)
        · have ht := it_n c13 ht
          exact J78 x5 S0 _ _ hP hS ls (lv_sub hl [1, 2, 3, 4, 5, 6] rfl) ht
        · have ht := it_p c13 ht
          refine lv_bipush (v := (-2)) hx hb dX8_stone_75 (by decide) ?_
          subst hQ
          obtain rfl := Option.some.inj ht
          exact W.iret (v := (-2)) hx hb hr (fun t e1 hW => ⟨⟨_, (), rfl, ⟨rfl, trivial⟩, q_at e1 hP⟩, hS.F e1⟩) hS.2.2 dX8_stone_77
    refine lv_istore (lv' := [(5, .int z0), (0, .ref (dd 14 0)), (1, .int p0), (2, .int p1), (3, .int p2), (4, .int p3)]) hx hb dX8_stone_28 hl (by decide) rfl (fun ls hl => ?_)
    refine lv_iload_n hx hb dX8_stone_30 rfl (lv_at hl 3 rfl) ?_
    refine q_ri (va_runS (As := [.int p1]) (rest := []) ⟨hx, hb, hml, hown, hts⟩ (kX8_isCell l D cI cZ cO p1) (va_cwS 1 hts gX8_stone_X8_isCell rfl rfl rfl (by decide +kernel) ⟨Nat.le_of_ble_eq_true rfl, Nat.le_of_ble_eq_true rfl⟩) (q_rS hE q_nil) rfl rfl hl.1 rfl (lv_room (Nat.le_of_ble_eq_true rfl)) dX8_stone_31 ⟨Nat.le_of_ble_eq_true rfl, Nat.le_of_ble_eq_true rfl⟩) (fun b6 => ?_)
    refine lv_if_eq (tgt := 62) hx hb dX8_stone_34 (by decide) (fun c7 => ?_) (fun c7 => ?_)
    · have ht := it_p c7 ht
      refine lv_iconst (v := 0) hx hb dX8_stone_62 (by decide) ?_
      exact J63 z0 0 S0 _ _ hP hS ls (lv_sub hl [1, 2, 3, 4, 5, 0] rfl) ht
    · have ht := it_n c7 ht
      refine lv_iload_n hx hb dX8_stone_37 rfl (lv_at hl 4 rfl) ?_
      refine lv_iconst (v := 1) hx hb dX8_stone_38 (by decide) ?_
      refine lv_bipush (v := 99) hx hb dX8_stone_39 (by decide) ?_
      refine q_ri (va_runS (As := [.int p2, .int 1, .int 99]) (rest := []) ⟨hx, hb, hml, hown, hts⟩ (kX8_within l D cI cZ cO p2 1 99) (va_cwS 3 hts gX8_stone_X8_within rfl rfl rfl (by decide +kernel) ⟨Nat.le_of_ble_eq_true rfl, Nat.le_of_ble_eq_true rfl⟩) (q_rS hE q_nil) rfl rfl hl.1 rfl (lv_room (Nat.le_of_ble_eq_true rfl)) dX8_stone_41 ⟨Nat.le_of_ble_eq_true rfl, Nat.le_of_ble_eq_true rfl⟩) (fun b8 => ?_)
      refine lv_if_eq (tgt := 62) hx hb dX8_stone_44 (by decide) (fun c9 => ?_) (fun c9 => ?_)
      · have ht := it_p c9 ht
        refine lv_iconst (v := 0) hx hb dX8_stone_62 (by decide) ?_
        exact J63 z0 0 S0 _ _ hP hS ls (lv_sub hl [1, 2, 3, 4, 5, 0] rfl) ht
      · have ht := it_n c9 ht
        refine lv_iload hx hb dX8_stone_47 (lv_at hl 5 rfl) ?_
        refine lv_iconst (v := 1) hx hb dX8_stone_49 (by decide) ?_
        refine lv_bipush (v := 99) hx hb dX8_stone_50 (by decide) ?_
        refine q_ri (va_runS (As := [.int p3, .int 1, .int 99]) (rest := []) ⟨hx, hb, hml, hown, hts⟩ (kX8_within l D cI cZ cO p3 1 99) (va_cwS 3 hts gX8_stone_X8_within rfl rfl rfl (by decide +kernel) ⟨Nat.le_of_ble_eq_true rfl, Nat.le_of_ble_eq_true rfl⟩) (q_rS hE q_nil) rfl rfl hl.1 rfl (lv_room (Nat.le_of_ble_eq_true rfl)) dX8_stone_52 ⟨Nat.le_of_ble_eq_true rfl, Nat.le_of_ble_eq_true rfl⟩) (fun b10 => ?_)
        refine lv_if_eq (tgt := 62) hx hb dX8_stone_55 (by decide) (fun c11 => ?_) (fun c11 => ?_)
        · have ht := it_p c11 ht
          refine lv_iconst (v := 0) hx hb dX8_stone_62 (by decide) ?_
          exact J63 z0 0 S0 _ _ hP hS ls (lv_sub hl [1, 2, 3, 4, 5, 0] rfl) ht
        · have ht := it_n c11 ht
          refine lv_iconst (v := 1) hx hb dX8_stone_58 (by decide) ?_
          refine lv_goto (tgt := 63) hx hb dX8_stone_59 (by decide) ?_
          exact J63 z0 1 S0 _ _ hP hS ls (lv_sub hl [1, 2, 3, 4, 5, 0] rfl) ht
  refine lv_iload_n hx hb dX8_stone_0 rfl (lv_at hl 1 rfl) ?_
  refine q_ri (va_runS (As := [.int p0]) (rest := []) ⟨hx, hb, hml, hown, hts⟩ (kX8_isPerson l D cI cZ cO p0) (va_cwS 1 hts gX8_stone_X8_isPerson rfl rfl rfl (by decide +kernel) ⟨Nat.le_of_ble_eq_true rfl, Nat.le_of_ble_eq_true rfl⟩) (q_rS hE q_nil) rfl rfl hl.1 rfl (lv_room (Nat.le_of_ble_eq_true rfl)) dX8_stone_1 ⟨Nat.le_of_ble_eq_true rfl, Nat.le_of_ble_eq_true rfl⟩) (fun b1 => ?_)
  refine lv_if_ne (tgt := 9) hx hb dX8_stone_4 (by decide) (fun c2 => ?_) (fun c2 => ?_)
  · have ht := it_n c2 ht
    refine lv_iload_n hx hb dX8_stone_9 rfl (lv_at hl 2 rfl) ?_
    refine lv_iconst (v := (-1)) hx hb dX8_stone_10 (by decide) ?_
    refine lv_icmp_ne (tgt := 27) hx hb dX8_stone_11 (by decide) (fun c3 => ?_) (fun c3 => ?_)
    · have ht := it_n c3 ht
      refine lv_iconst (v := 0) hx hb dX8_stone_27 (by decide) ?_
      exact J28 0 S0 _ _ hP hS ls (lv_sub hl [0, 1, 2, 3, 4] rfl) ht
    · have ht := it_p c3 ht
      refine lv_iload_n hx hb dX8_stone_14 rfl (lv_at hl 3 rfl) ?_
      refine lv_if_ne (tgt := 27) hx hb dX8_stone_15 (by decide) (fun c4 => ?_) (fun c4 => ?_)
      · have ht := it_n c4 ht
        refine lv_iconst (v := 0) hx hb dX8_stone_27 (by decide) ?_
        exact J28 0 S0 _ _ hP hS ls (lv_sub hl [0, 1, 2, 3, 4] rfl) ht
      · have ht := it_p c4 ht
        refine lv_iload hx hb dX8_stone_18 (lv_at hl 4 rfl) ?_
        refine lv_if_ne (tgt := 27) hx hb dX8_stone_20 (by decide) (fun c5 => ?_) (fun c5 => ?_)
        · have ht := it_n c5 ht
          refine lv_iconst (v := 0) hx hb dX8_stone_27 (by decide) ?_
          exact J28 0 S0 _ _ hP hS ls (lv_sub hl [0, 1, 2, 3, 4] rfl) ht
        · have ht := it_p c5 ht
          refine lv_iconst (v := 1) hx hb dX8_stone_23 (by decide) ?_
          refine lv_goto (tgt := 28) hx hb dX8_stone_24 (by decide) ?_
          exact J28 1 S0 _ _ hP hS ls (lv_sub hl [0, 1, 2, 3, 4] rfl) ht
  · have ht := it_p c2 ht
    refine lv_iconst (v := (-1)) hx hb dX8_stone_7 (by decide) ?_
    subst hQ
    obtain rfl := Option.some.inj ht
    exact W.iret (v := (-1)) hx hb hr (fun t e1 hW => ⟨⟨_, (), rfl, ⟨rfl, trivial⟩, q_at e1 hP⟩, hS.F e1⟩) hS.2.2 dX8_stone_8
abbrev rmX8_reader : Room := { frames := 2, cells := 0, slots := 0, locals := 42 }
set_option maxHeartbeats 4000000 in
set_option maxRecDepth 100000 in
theorem kX8_reader (l : Launch) (D : va_G) (cI cZ cO : ClassId) (dd : Nat → Nat → Nat) (sz : Nat) (S0 : St) (p0 : Int32) (p1 : Int32) (p2 : Int32) (tg : Int32 × St) (ht : xX8_reader p0 p1 p2 S0 = some tg) : Met l yX8_reader wsX8_reader rmX8_reader (q_PM D cI cZ cO [.ref (dd 14 0), .int p0, .int p1, .int p2] sz (wg5 cI cZ (dd 0) S0 ++ (wg8 dd))) (va_Qi (fun x (_ : Unit) => x = tg.1 ∧ True) (fun _ t => va_P D vwCl (wg5 cI cZ (dd 0) tg.2 ++ (wg8 dd)) t.heap) (va_A (wg5 cI cZ (dd 0) S0 ++ (wg8 dd)) sz)) 0 0 (va_A (wg5 cI cZ (dd 0) S0 ++ (wg8 dd)) sz) := by
  refine Met.ofW (cc := cX8_reader) (maxL := 5) (ret := (some .int)) (by decide) rfl ?_
  intro p e s m args below meth c s₁ B hml hv
  obtain ⟨rfl, hsz, hE, hP, hD0⟩ := hv
  have hx := B.exec
  have hb := B.bytes
  have hr := B.returns
  have hts := atoms_spec (ws := wsX8_reader) B.pre
  have hown : s.vm.findClass RX8 = some m.cls := findClass_of_methodNamed B.named
  have hlocks := B.notSynchronized
  have hi8 : ∀ w ∈ u_ws RX8 TX8 7, w ∈ wsX8_reader := by decide +kernel
  have hi5 : ∀ w ∈ u_ws RX5 TX5 11, w ∈ wsX8_reader := by decide +kernel
  have hw0 := hts (.fieldLink RX8 10 "HailNames" "now" "LHailNames$Plain;") (by decide +kernel)
  have hw1 := hts (.fieldLink RX8 86 "HailNames$Plain" "place" "[I") (by decide +kernel)
  have hw2 := hts (.fieldLink RX8 89 "HailNames$Plain" "stunned" "[I") (by decide +kernel)
  have hw3 := hts (.fieldLink RX8 92 "HailNames$Plain" "acted" "[Z") (by decide +kernel)
  subst hsz
  have hD1 := hD0.self (sz := s.heap.size)
  generalize hAe : va_A (wg5 cI cZ (dd 0) S0 ++ (wg8 dd)) s.heap.size = A at hD1 ⊢
  have hA : ∀ q : Nat, s.heap.size ≤ q → A q := fun q h => by rw [← hAe]; exact Or.inr h
  have hS : va_S A s.heap s.heap [] := va_S.rf
  have hD : ∀ (S0 : St), va_D A (wg5 cI cZ (dd 0) S0 ++ (wg8 dd)) := fun S0 => q_D hD1 rfl
  have hl := lv_entry ([.ref (dd 14 0), .int p0, .int p1, .int p2]) (n := 5) (Nat.le_of_ble_eq_true rfl)
  rw [lg_entry_eq]
  generalize (lg_sl ([.ref (dd 14 0), .int p0, .int p1, .int p2]) ++ List.replicate (5 - (lg_sl ([.ref (dd 14 0), .int p0, .int p1, .int p2])).length) Slot.unset).toArray = ls at hl ⊢
  have hl : lv_has ls 5 [(0, .ref (dd 14 0)), (1, .int p0), (2, .int p1), (3, .int p2)] := hl
  have ht := (xX8_reader_s p0 p1 p2 S0).symm.trans ht
  refine lv_iload_n hx hb dX8_reader_0 rfl (lv_at hl 1 rfl) ?_
  refine q_ri (va_runS (As := [.int p0]) (rest := []) ⟨hx, hb, hml, hown, hts⟩ (kX8_isReader l D cI cZ cO p0) (va_cwS 1 hts gX8_reader_X8_isReader rfl rfl rfl (by decide +kernel) ⟨Nat.le_of_ble_eq_true rfl, Nat.le_of_ble_eq_true rfl⟩) (q_rS hE q_nil) rfl rfl hl.1 rfl (lv_room (Nat.le_of_ble_eq_true rfl)) dX8_reader_1 ⟨Nat.le_of_ble_eq_true rfl, Nat.le_of_ble_eq_true rfl⟩) (fun b1 => ?_)
  refine lv_if_ne (tgt := 9) hx hb dX8_reader_4 (by decide) (fun c2 => ?_) (fun c2 => ?_)
  · have ht := it_n c2 ht
    refine lv_iload_n hx hb dX8_reader_9 rfl (lv_at hl 2 rfl) ?_
    refine q_ri (va_runS (As := [.int p1]) (rest := []) ⟨hx, hb, hml, hown, hts⟩ (kX8_isCell l D cI cZ cO p1) (va_cwS 1 hts gX8_reader_X8_isCell rfl rfl rfl (by decide +kernel) ⟨Nat.le_of_ble_eq_true rfl, Nat.le_of_ble_eq_true rfl⟩) (q_rS hE q_nil) rfl rfl hl.1 rfl (lv_room (Nat.le_of_ble_eq_true rfl)) dX8_reader_10 ⟨Nat.le_of_ble_eq_true rfl, Nat.le_of_ble_eq_true rfl⟩) (fun b3 => ?_)
    refine lv_if_eq (tgt := 26) hx hb dX8_reader_13 (by decide) (fun c4 => ?_) (fun c4 => ?_)
    · have ht := it_p c4 ht
      refine lv_bipush (v := (-2)) hx hb dX8_reader_26 (by decide) ?_
      obtain rfl := Option.some.inj ht
      exact W.iret (v := (-2)) hx hb hr (fun t e1 hW => ⟨⟨_, (), rfl, ⟨rfl, trivial⟩, q_at e1 hP⟩, hS.F e1⟩) hS.2.2 dX8_reader_28
    · have ht := it_n c4 ht
      refine lv_iload_n hx hb dX8_reader_16 rfl (lv_at hl 3 rfl) ?_
      refine lv_iconst (v := 0) hx hb dX8_reader_17 (by decide) ?_
      refine lv_bipush (v := 9) hx hb dX8_reader_18 (by decide) ?_
      refine q_ri (va_runS (As := [.int p2, .int 0, .int 9]) (rest := []) ⟨hx, hb, hml, hown, hts⟩ (kX8_within l D cI cZ cO p2 0 9) (va_cwS 3 hts gX8_reader_X8_within rfl rfl rfl (by decide +kernel) ⟨Nat.le_of_ble_eq_true rfl, Nat.le_of_ble_eq_true rfl⟩) (q_rS hE q_nil) rfl rfl hl.1 rfl (lv_room (Nat.le_of_ble_eq_true rfl)) dX8_reader_20 ⟨Nat.le_of_ble_eq_true rfl, Nat.le_of_ble_eq_true rfl⟩) (fun b5 => ?_)
      refine lv_if_ne (tgt := 29) hx hb dX8_reader_23 (by decide) (fun c6 => ?_) (fun c6 => ?_)
      · have ht := it_n c6 ht
        refine lv_aload_n hx hb dX8_reader_29 rfl (lv_at hl 0 rfl) ?_
        refine va_get (D := D) (ci := 8) (v := .ref (dd 0 0)) (C := RX8) (T := TX8) (N := 7) hx hb hts hi8 hown hE.1 hP 10 rfl rfl 0 (by decide) hw0 (fun _ h9 => h9) rfl dX8_reader_30 ?_
        refine va_get (D := D) (ci := 5) (v := .ref (dd 0 6)) (C := RX5) (T := TX5) (N := 11) hx hb hts hi5 hown hE.1 hP 0 rfl rfl 5 (by decide) hw1 (fun _ h9 => h9) rfl dX8_reader_33 ?_
        refine lv_iload_n hx hb dX8_reader_36 rfl (lv_at hl 1 rfl) ?_
        obtain ⟨g7, ht⟩ := it_g ht
        refine va_iald hx hb hE.1 hP 6 0 rfl rfl (q_in g7) dX8_reader_37 ?_
        refine lv_istore (lv' := [(4, .int (S0 5 p0.toNatClampNeg)), (0, .ref (dd 14 0)), (1, .int p0), (2, .int p1), (3, .int p2)]) hx hb dX8_reader_38 hl (by decide) rfl (fun ls hl => ?_)
        refine lv_aload_n hx hb dX8_reader_40 rfl (lv_at hl 1 rfl) ?_
        refine va_get (D := D) (ci := 8) (v := .ref (dd 0 0)) (C := RX8) (T := TX8) (N := 7) hx hb hts hi8 hown hE.1 hP 10 rfl rfl 0 (by decide) hw0 (fun _ h9 => h9) rfl dX8_reader_41 ?_
        refine va_get (D := D) (ci := 5) (v := .ref (dd 0 6)) (C := RX5) (T := TX5) (N := 11) hx hb hts hi5 hown hE.1 hP 0 rfl rfl 5 (by decide) hw1 (fun _ h9 => h9) rfl dX8_reader_44 ?_
        refine lv_iload_n hx hb dX8_reader_47 rfl (lv_at hl 2 rfl) ?_
        refine lv_iload_n hx hb dX8_reader_48 rfl (lv_at hl 3 rfl) ?_
        refine va_iast hx hb hE.1 hP (hD _) hS 6 0 rfl rfl (q_in g7) dX8_reader_49 (fun H locs hP _ hS => ?_)
        have hP : va_P D vwCl (wg5 cI cZ (dd 0) (q_su S0 5 p0.toNatClampNeg p1) ++ (wg8 dd)) H := hP
        obtain ⟨T8, eT8⟩ : ∃ z : St, z = q_su S0 5 p0.toNatClampNeg p1 := ⟨_, rfl⟩
        rw [← eT8] at hP
        have ht := it_l ht eT8
        refine lv_aload_n hx hb dX8_reader_50 rfl (lv_at hl 1 rfl) ?_
        refine va_get (D := D) (ci := 8) (v := .ref (dd 0 0)) (C := RX8) (T := TX8) (N := 7) hx hb hts hi8 hown hE.1 hP 10 rfl rfl 0 (by decide) hw0 (fun _ h9 => h9) rfl dX8_reader_51 ?_
        refine va_get (D := D) (ci := 5) (v := .ref (dd 0 7)) (C := RX5) (T := TX5) (N := 11) hx hb hts hi5 hown hE.1 hP 0 rfl rfl 6 (by decide) hw2 (fun _ h9 => h9) rfl dX8_reader_54 ?_
        refine lv_iload_n hx hb dX8_reader_57 rfl (lv_at hl 2 rfl) ?_
        refine lv_iload_n hx hb dX8_reader_58 rfl (lv_at hl 4 rfl) ?_
        refine va_iast hx hb hE.1 hP (hD _) hS 7 0 rfl rfl (q_in g7) dX8_reader_59 (fun H locs hP _ hS => ?_)
        have hP : va_P D vwCl (wg5 cI cZ (dd 0) (q_su T8 6 p0.toNatClampNeg p2) ++ (wg8 dd)) H := hP
        obtain ⟨T9, eT9⟩ : ∃ z : St, z = q_su T8 6 p0.toNatClampNeg p2 := ⟨_, rfl⟩
        rw [← eT9] at hP
        have ht := it_l ht eT9
        refine lv_aload_n hx hb dX8_reader_60 rfl (lv_at hl 1 rfl) ?_
        refine va_get (D := D) (ci := 8) (v := .ref (dd 0 0)) (C := RX8) (T := TX8) (N := 7) hx hb hts hi8 hown hE.1 hP 10 rfl rfl 0 (by decide) hw0 (fun _ h9 => h9) rfl dX8_reader_61 ?_
        refine va_get (D := D) (ci := 5) (v := .ref (dd 0 9)) (C := RX5) (T := TX5) (N := 11) hx hb hts hi5 hown hE.1 hP 0 rfl rfl 8 (by decide) hw3 (fun _ h9 => h9) rfl dX8_reader_64 ?_
        refine lv_iload_n hx hb dX8_reader_67 rfl (lv_at hl 2 rfl) ?_
        refine lv_iconst (v := 0) hx hb dX8_reader_68 (by decide) ?_
        refine va_zast hx hb hE.1 hP (hD _) hS 9 1 rfl rfl (q_in g7) dX8_reader_69 (fun H locs hP _ hS => ?_)
        have hP : va_P D vwCl (wg5 cI cZ (dd 0) (q_su T9 8 p0.toNatClampNeg (vp_nar .boolean 0)) ++ (wg8 dd)) H := hP
        obtain ⟨T10, eT10⟩ : ∃ z : St, z = q_su T9 8 p0.toNatClampNeg (vp_nar .boolean 0) := ⟨_, rfl⟩
        rw [← eT10] at hP
        have ht := it_l ht eT10
        refine lv_iload hx hb dX8_reader_70 (lv_at hl 0 rfl) ?_
        obtain rfl := Option.some.inj ht
        exact W.iret (v := S0 5 p0.toNatClampNeg) hx hb hr (fun t e1 hW => ⟨⟨_, (), rfl, ⟨rfl, trivial⟩, q_at e1 hP⟩, hS.F e1⟩) hS.2.2 dX8_reader_72
      · have ht := it_p c6 ht
        refine lv_bipush (v := (-2)) hx hb dX8_reader_26 (by decide) ?_
        obtain rfl := Option.some.inj ht
        exact W.iret (v := (-2)) hx hb hr (fun t e1 hW => ⟨⟨_, (), rfl, ⟨rfl, trivial⟩, q_at e1 hP⟩, hS.F e1⟩) hS.2.2 dX8_reader_28
  · have ht := it_p c2 ht
    refine lv_iconst (v := (-1)) hx hb dX8_reader_7 (by decide) ?_
    obtain rfl := Option.some.inj ht
    exact W.iret (v := (-1)) hx hb hr (fun t e1 hW => ⟨⟨_, (), rfl, ⟨rfl, trivial⟩, q_at e1 hP⟩, hS.F e1⟩) hS.2.2 dX8_reader_8
abbrev rmX8_melt : Room := { frames := 1, cells := 0, slots := 0, locals := 22 }
set_option maxHeartbeats 4000000 in
set_option maxRecDepth 100000 in
theorem kX8_melt (l : Launch) (D : va_G) (cI cZ cO : ClassId) (dd : Nat → Nat → Nat) (sz : Nat) (S0 : St) (p0 : Int32) (tg : Int32 × St) (ht : xX8_melt p0 S0 = some tg) : Met l yX8_melt wsX8_melt rmX8_melt (q_PM D cI cZ cO [.ref (dd 14 0), .int p0] sz (wg5 cI cZ (dd 0) S0 ++ (wg8 dd))) (va_Qi (fun x (_ : Unit) => x = tg.1 ∧ True) (fun _ t => va_P D vwCl (wg5 cI cZ (dd 0) tg.2 ++ (wg8 dd)) t.heap) (va_A (wg5 cI cZ (dd 0) S0 ++ (wg8 dd)) sz)) 0 0 (va_A (wg5 cI cZ (dd 0) S0 ++ (wg8 dd)) sz) := by
  refine Met.ofW (cc := cX8_melt) (maxL := 3) (ret := (some .int)) (by decide) rfl ?_
  intro p e s m args below meth c s₁ B hml hv
  obtain ⟨rfl, hsz, hE, hP, hD0⟩ := hv
  have hx := B.exec
  have hb := B.bytes
  have hr := B.returns
  have hts := atoms_spec (ws := wsX8_melt) B.pre
  have hown : s.vm.findClass RX8 = some m.cls := findClass_of_methodNamed B.named
  have hlocks := B.notSynchronized
  have hi8 : ∀ w ∈ u_ws RX8 TX8 7, w ∈ wsX8_melt := by decide +kernel
  have hi5 : ∀ w ∈ u_ws RX5 TX5 11, w ∈ wsX8_melt := by decide +kernel
  have hw0 := hts (.fieldLink RX8 10 "HailNames" "now" "LHailNames$Plain;") (by decide +kernel)
  have hw1 := hts (.fieldLink RX8 96 "HailNames$Plain" "melting" "I") (by decide +kernel)
  subst hsz
  have hD1 := hD0.self (sz := s.heap.size)
  generalize hAe : va_A (wg5 cI cZ (dd 0) S0 ++ (wg8 dd)) s.heap.size = A at hD1 ⊢
  have hA : ∀ q : Nat, s.heap.size ≤ q → A q := fun q h => by rw [← hAe]; exact Or.inr h
  have hS : va_S A s.heap s.heap [] := va_S.rf
  have hD : ∀ (S0 : St), va_D A (wg5 cI cZ (dd 0) S0 ++ (wg8 dd)) := fun S0 => q_D hD1 rfl
  have hl := lv_entry ([.ref (dd 14 0), .int p0]) (n := 3) (Nat.le_of_ble_eq_true rfl)
  rw [lg_entry_eq]
  generalize (lg_sl ([.ref (dd 14 0), .int p0]) ++ List.replicate (3 - (lg_sl ([.ref (dd 14 0), .int p0])).length) Slot.unset).toArray = ls at hl ⊢
  have hl : lv_has ls 3 [(0, .ref (dd 14 0)), (1, .int p0)] := hl
  have ht := (xX8_melt_s p0 S0).symm.trans ht
  refine lv_iload_n hx hb dX8_melt_0 rfl (lv_at hl 1 rfl) ?_
  refine lv_iconst (v := 1) hx hb dX8_melt_1 (by decide) ?_
  refine lv_bipush (v := 9) hx hb dX8_melt_2 (by decide) ?_
  refine q_ri (va_runS (As := [.int p0, .int 1, .int 9]) (rest := []) ⟨hx, hb, hml, hown, hts⟩ (kX8_within l D cI cZ cO p0 1 9) (va_cwS 3 hts gX8_melt_X8_within rfl rfl rfl (by decide +kernel) ⟨Nat.le_of_ble_eq_true rfl, Nat.le_of_ble_eq_true rfl⟩) (q_rS hE q_nil) rfl rfl hl.1 rfl (lv_room (Nat.le_of_ble_eq_true rfl)) dX8_melt_4 ⟨Nat.le_of_ble_eq_true rfl, Nat.le_of_ble_eq_true rfl⟩) (fun b1 => ?_)
  refine lv_if_ne (tgt := 13) hx hb dX8_melt_7 (by decide) (fun c2 => ?_) (fun c2 => ?_)
  · have ht := it_n c2 ht
    refine lv_aload_n hx hb dX8_melt_13 rfl (lv_at hl 0 rfl) ?_
    refine va_get (D := D) (ci := 8) (v := .ref (dd 0 0)) (C := RX8) (T := TX8) (N := 7) hx hb hts hi8 hown hE.1 hP 10 rfl rfl 0 (by decide) hw0 (fun _ h9 => h9) rfl dX8_melt_14 ?_
    refine va_get (D := D) (ci := 5) (v := .int (S0 9 0)) (C := RX5) (T := TX5) (N := 11) hx hb hts hi5 hown hE.1 hP 0 rfl rfl 9 (by decide) hw1 (fun _ h9 => h9) rfl dX8_melt_17 ?_
    refine lv_istore_n (lv' := [(2, .int (S0 9 0)), (0, .ref (dd 14 0)), (1, .int p0)]) hx hb dX8_melt_20 rfl hl (by decide) rfl (fun ls hl => ?_)
    refine lv_aload_n hx hb dX8_melt_21 rfl (lv_at hl 1 rfl) ?_
    refine va_get (D := D) (ci := 8) (v := .ref (dd 0 0)) (C := RX8) (T := TX8) (N := 7) hx hb hts hi8 hown hE.1 hP 10 rfl rfl 0 (by decide) hw0 (fun _ h9 => h9) rfl dX8_melt_22 ?_
    refine lv_iload_n hx hb dX8_melt_25 rfl (lv_at hl 2 rfl) ?_
    refine va_put (D := D) (ci := 5) (v := .int p0) (ty := .int) (C := RX5) (T := TX5) (N := 11) hx hb hts hi5 tyX5 tyX5_ok nmX5 hown hE.1 hP (hD _) hS 0 rfl rfl 9 (by decide) hw1 (fun _ h9 => h9) rfl (by decide +kernel) rfl rfl (Nat.le_of_ble_eq_true rfl) dX8_melt_26 (fun H locs hP _ hS => ?_)
    have hP : va_P D vwCl (wg5 cI cZ (dd 0) (q_su S0 9 0 p0) ++ (wg8 dd)) H := hP
    obtain ⟨T3, eT3⟩ : ∃ z : St, z = q_su S0 9 0 p0 := ⟨_, rfl⟩
    rw [← eT3] at hP
    have ht := it_l ht eT3
    refine lv_iload_n hx hb dX8_melt_29 rfl (lv_at hl 0 rfl) ?_
    obtain rfl := Option.some.inj ht
    exact W.iret (v := S0 9 0) hx hb hr (fun t e1 hW => ⟨⟨_, (), rfl, ⟨rfl, trivial⟩, q_at e1 hP⟩, hS.F e1⟩) hS.2.2 dX8_melt_30
  · have ht := it_p c2 ht
    refine lv_bipush (v := (-2)) hx hb dX8_melt_10 (by decide) ?_
    obtain rfl := Option.some.inj ht
    exact W.iret (v := (-2)) hx hb hr (fun t e1 hW => ⟨⟨_, (), rfl, ⟨rfl, trivial⟩, q_at e1 hP⟩, hS.F e1⟩) hS.2.2 dX8_melt_12
abbrev rmX8_say : Room := { frames := 1, cells := 0, slots := 0, locals := 22 }
set_option maxHeartbeats 4000000 in
set_option maxRecDepth 100000 in
theorem kX8_say (l : Launch) (D : va_G) (cI cZ cO : ClassId) (dd : Nat → Nat → Nat) (sz : Nat) (S1 : St) (p0 : Int32) (tg : Int32 × St) (ht : xX8_say p0 S1 = some tg) : Met l yX8_say wsX8_say rmX8_say (q_PM D cI cZ cO [.ref (dd 14 0), .int p0] sz (wg4 cI cZ (dd 1) S1 ++ (wg8 dd))) (va_Qi (fun x (_ : Unit) => x = tg.1 ∧ True) (fun _ t => va_P D vwCl (wg4 cI cZ (dd 1) tg.2 ++ (wg8 dd)) t.heap) (va_A (wg4 cI cZ (dd 1) S1 ++ (wg8 dd)) sz)) 0 0 (va_A (wg4 cI cZ (dd 1) S1 ++ (wg8 dd)) sz) := by
  refine Met.ofW (cc := cX8_say) (maxL := 2) (ret := (some .int)) (by decide) rfl ?_
  intro p e s m args below meth c s₁ B hml hv
  obtain ⟨rfl, hsz, hE, hP, hD0⟩ := hv
  have hx := B.exec
  have hb := B.bytes
  have hr := B.returns
  have hts := atoms_spec (ws := wsX8_say) B.pre
  have hown : s.vm.findClass RX8 = some m.cls := findClass_of_methodNamed B.named
  have hlocks := B.notSynchronized
  have hi8 : ∀ w ∈ u_ws RX8 TX8 7, w ∈ wsX8_say := by decide +kernel
  have hi4 : ∀ w ∈ u_ws RX4 TX4 2, w ∈ wsX8_say := by decide +kernel
  have hw0 := hts (.fieldLink RX8 19 "HailNames" "pad" "LHailNames$Pad;") (by decide +kernel)
  have hw1 := hts (.fieldLink RX8 103 "HailNames$Pad" "length" "I") (by decide +kernel)
  subst hsz
  have hD1 := hD0.self (sz := s.heap.size)
  generalize hAe : va_A (wg4 cI cZ (dd 1) S1 ++ (wg8 dd)) s.heap.size = A at hD1 ⊢
  have hA : ∀ q : Nat, s.heap.size ≤ q → A q := fun q h => by rw [← hAe]; exact Or.inr h
  have hS : va_S A s.heap s.heap [] := va_S.rf
  have hD : ∀ (S1 : St), va_D A (wg4 cI cZ (dd 1) S1 ++ (wg8 dd)) := fun S1 => q_D hD1 rfl
  have hl := lv_entry ([.ref (dd 14 0), .int p0]) (n := 2) (Nat.le_of_ble_eq_true rfl)
  rw [lg_entry_eq]
  generalize (lg_sl ([.ref (dd 14 0), .int p0]) ++ List.replicate (2 - (lg_sl ([.ref (dd 14 0), .int p0])).length) Slot.unset).toArray = ls at hl ⊢
  have hl : lv_has ls 2 [(0, .ref (dd 14 0)), (1, .int p0)] := hl
  have ht := (xX8_say_s p0 S1).symm.trans ht
  refine lv_iload_n hx hb dX8_say_0 rfl (lv_at hl 1 rfl) ?_
  refine lv_bipush (v := 33) hx hb dX8_say_1 (by decide) ?_
  refine lv_bipush (v := 126) hx hb dX8_say_3 (by decide) ?_
  refine q_ri (va_runS (As := [.int p0, .int 33, .int 126]) (rest := []) ⟨hx, hb, hml, hown, hts⟩ (kX8_within l D cI cZ cO p0 33 126) (va_cwS 3 hts gX8_say_X8_within rfl rfl rfl (by decide +kernel) ⟨Nat.le_of_ble_eq_true rfl, Nat.le_of_ble_eq_true rfl⟩) (q_rS hE q_nil) rfl rfl hl.1 rfl (lv_room (Nat.le_of_ble_eq_true rfl)) dX8_say_5 ⟨Nat.le_of_ble_eq_true rfl, Nat.le_of_ble_eq_true rfl⟩) (fun b1 => ?_)
  refine lv_if_ne (tgt := 14) hx hb dX8_say_8 (by decide) (fun c2 => ?_) (fun c2 => ?_)
  · have ht := it_n c2 ht
    refine lv_aload_n hx hb dX8_say_14 rfl (lv_at hl 0 rfl) ?_
    refine va_get (D := D) (ci := 8) (v := .ref (dd 1 0)) (C := RX8) (T := TX8) (N := 7) hx hb hts hi8 hown hE.1 hP 2 rfl rfl 1 (by decide) hw0 (fun _ h9 => h9) rfl dX8_say_15 ?_
    refine lv_iload_n hx hb dX8_say_18 rfl (lv_at hl 1 rfl) ?_
    obtain ⟨q3, hq3, ht⟩ := it_b ht
    have hPc : va_P D vwCl (wg4 cI cZ (dd 1) S1) s.heap := hP.sub [0, 1] rfl
    have hDc : va_D A (wg4 cI cZ (dd 1) S1) := ((hD S1)).sub [0, 1] (by decide) rfl
    have hFc := va_free (wc := (wg4 cI cZ (dd 1) S1)) (hD S1) hS hA [0, 1] rfl
    refine q_mi (va_runV (As := [.int p0]) (rest := []) ⟨hx, hb, hml, hown, hts⟩ (kX4_append l D cI cZ cO (dd 1) s.heap.size S1 p0 q3 hq3) (cwV 1 hts gX8_say_X4_append rfl rfl rfl (by decide +kernel) ⟨Nat.le_of_ble_eq_true rfl, Nat.le_of_ble_eq_true rfl⟩) (q_mV (As := [.int p0]) hE hPc hDc (q0 := 0) (ci := 4) rfl rfl) rfl rfl hl.1 rfl (lv_room (Nat.le_of_ble_eq_true rfl)) dX8_say_19 ⟨Nat.le_of_ble_eq_true rfl, Nat.le_of_ble_eq_true rfl⟩) hS hFc (fun H locs b4 hP1 hk hS => ?_)
    have hP : va_P D vwCl (wg4 cI cZ (dd 1) q3.2 ++ (wg8 dd)) H := (q_join (wr := (wg8 dd)) hP (hD S1) [0, 1] [2] rfl rfl (by decide) (by decide) hk hFc hP1 hDc rfl).sub [1, 2, 0] rfl
    refine lv_if_eq (tgt := 35) hx hb dX8_say_22 (by decide) (fun c5 => ?_) (fun c5 => ?_)
    · have ht := it_p c5 ht
      refine lv_bipush (v := (-4)) hx hb dX8_say_35 (by decide) ?_
      obtain rfl := Option.some.inj ht
      exact W.iret (v := (-4)) hx hb hr (fun t e1 hW => ⟨⟨_, (), rfl, ⟨rfl, trivial⟩, q_at e1 hP⟩, hS.F e1⟩) hS.2.2 dX8_say_37
    · have ht := it_n c5 ht
      refine lv_aload_n hx hb dX8_say_25 rfl (lv_at hl 0 rfl) ?_
      refine va_get (D := D) (ci := 8) (v := .ref (dd 1 0)) (C := RX8) (T := TX8) (N := 7) hx hb hts hi8 hown hE.1 hP 2 rfl rfl 1 (by decide) hw0 (fun _ h9 => h9) rfl dX8_say_26 ?_
      refine va_get (D := D) (ci := 4) (v := .int (q3.2 1 0)) (C := RX4) (T := TX4) (N := 2) hx hb hts hi4 hown hE.1 hP 0 rfl rfl 1 (by decide) hw1 (fun _ h9 => h9) rfl dX8_say_29 ?_
      refine lv_goto (tgt := 37) hx hb dX8_say_32 (by decide) ?_
      obtain rfl := Option.some.inj ht
      exact W.iret (v := q3.2 1 0) hx hb hr (fun t e1 hW => ⟨⟨_, (), rfl, ⟨rfl, trivial⟩, q_at e1 hP⟩, hS.F e1⟩) hS.2.2 dX8_say_37
  · have ht := it_p c2 ht
    refine lv_bipush (v := (-2)) hx hb dX8_say_11 (by decide) ?_
    obtain rfl := Option.some.inj ht
    exact W.iret (v := (-2)) hx hb hr (fun t e1 hW => ⟨⟨_, (), rfl, ⟨rfl, trivial⟩, q_at e1 hP⟩, hS.F e1⟩) hS.2.2 dX8_say_13
abbrev rmX8_wipe : Room := { frames := 1, cells := 0, slots := 0, locals := 21 }
set_option maxHeartbeats 4000000 in
set_option maxRecDepth 100000 in
theorem kX8_wipe (l : Launch) (D : va_G) (cI cZ cO : ClassId) (dd : Nat → Nat → Nat) (sz : Nat) (S1 : St) (tg : Int32 × St) (ht : xX8_wipe S1 = some tg) : Met l yX8_wipe wsX8_wipe rmX8_wipe (q_PM D cI cZ cO [.ref (dd 14 0)] sz (wg4 cI cZ (dd 1) S1 ++ (wg8 dd))) (va_Qi (fun x (_ : Unit) => x = tg.1 ∧ True) (fun _ t => va_P D vwCl (wg4 cI cZ (dd 1) tg.2 ++ (wg8 dd)) t.heap) (va_A (wg4 cI cZ (dd 1) S1 ++ (wg8 dd)) sz)) 0 0 (va_A (wg4 cI cZ (dd 1) S1 ++ (wg8 dd)) sz) := by
  refine Met.ofW (cc := cX8_wipe) (maxL := 1) (ret := (some .int)) (by decide) rfl ?_
  intro p e s m args below meth c s₁ B hml hv
  obtain ⟨rfl, hsz, hE, hP, hD0⟩ := hv
  have hx := B.exec
  have hb := B.bytes
  have hr := B.returns
  have hts := atoms_spec (ws := wsX8_wipe) B.pre
  have hown : s.vm.findClass RX8 = some m.cls := findClass_of_methodNamed B.named
  have hlocks := B.notSynchronized
  have hi8 : ∀ w ∈ u_ws RX8 TX8 7, w ∈ wsX8_wipe := by decide +kernel
  have hw0 := hts (.fieldLink RX8 19 "HailNames" "pad" "LHailNames$Pad;") (by decide +kernel)
  subst hsz
  have hD1 := hD0.self (sz := s.heap.size)
  generalize hAe : va_A (wg4 cI cZ (dd 1) S1 ++ (wg8 dd)) s.heap.size = A at hD1 ⊢
  have hA : ∀ q : Nat, s.heap.size ≤ q → A q := fun q h => by rw [← hAe]; exact Or.inr h
  have hS : va_S A s.heap s.heap [] := va_S.rf
  have hD : ∀ (S1 : St), va_D A (wg4 cI cZ (dd 1) S1 ++ (wg8 dd)) := fun S1 => q_D hD1 rfl
  have hl := lv_entry ([.ref (dd 14 0)]) (n := 1) (Nat.le_of_ble_eq_true rfl)
  rw [lg_entry_eq]
  generalize (lg_sl ([.ref (dd 14 0)]) ++ List.replicate (1 - (lg_sl ([.ref (dd 14 0)])).length) Slot.unset).toArray = ls at hl ⊢
  have hl : lv_has ls 1 [(0, .ref (dd 14 0))] := hl
  have ht := (xX8_wipe_s S1).symm.trans ht
  refine lv_aload_n hx hb dX8_wipe_0 rfl (lv_at hl 0 rfl) ?_
  refine va_get (D := D) (ci := 8) (v := .ref (dd 1 0)) (C := RX8) (T := TX8) (N := 7) hx hb hts hi8 hown hE.1 hP 2 rfl rfl 1 (by decide) hw0 (fun _ h9 => h9) rfl dX8_wipe_1 ?_
  obtain ⟨q1, hq1, ht⟩ := it_b ht
  have hPc : va_P D vwCl (wg4 cI cZ (dd 1) S1) s.heap := hP.sub [0, 1] rfl
  have hDc : va_D A (wg4 cI cZ (dd 1) S1) := ((hD S1)).sub [0, 1] (by decide) rfl
  have hFc := va_free (wc := (wg4 cI cZ (dd 1) S1)) (hD S1) hS hA [0, 1] rfl
  refine q_mi (va_runV (As := []) (rest := []) ⟨hx, hb, hml, hown, hts⟩ (kX4_clear l D cI cZ cO (dd 1) s.heap.size S1 q1 hq1) (cwV 0 hts gX8_wipe_X4_clear rfl rfl rfl (by decide +kernel) ⟨Nat.le_of_ble_eq_true rfl, Nat.le_of_ble_eq_true rfl⟩) (q_mV (As := []) hE hPc hDc (q0 := 0) (ci := 4) rfl rfl) rfl rfl hl.1 rfl (lv_room (Nat.le_of_ble_eq_true rfl)) dX8_wipe_4 ⟨Nat.le_of_ble_eq_true rfl, Nat.le_of_ble_eq_true rfl⟩) hS hFc (fun H locs b2 hP1 hk hS => ?_)
  have hP : va_P D vwCl (wg4 cI cZ (dd 1) q1.2 ++ (wg8 dd)) H := (q_join (wr := (wg8 dd)) hP (hD S1) [0, 1] [2] rfl rfl (by decide) (by decide) hk hFc hP1 hDc rfl).sub [1, 2, 0] rfl
  obtain rfl := Option.some.inj ht
  exact W.iret (v := q1.1) hx hb hr (fun t e1 hW => ⟨⟨_, (), rfl, ⟨rfl, trivial⟩, q_at e1 hP⟩, hS.F e1⟩) hS.2.2 dX8_wipe_7
abbrev rmX8_fault : Room := { frames := 5, cells := 0, slots := 0, locals := 110 }
set_option maxHeartbeats 4000000 in
set_option maxRecDepth 100000 in
theorem kX8_fault (l : Launch) (D : va_G) (cI cZ cO : ClassId) (dd : Nat → Nat → Nat) (S1 : St) (tg : Int32) (ht : xX8_fault S1 = some tg) : Met l yX8_fault wsX8_fault rmX8_fault (q_PR D cI cZ cO [.ref (dd 14 0)] (wg4 cI cZ (dd 1) S1 ++ (wg8 dd))) (vp_Si (fun x => x = tg ∧ True)) 0 0 (fun _ => False) := by
  refine Met.ofW (cc := cX8_fault) (maxL := 1) (ret := (some .int)) (by decide) rfl ?_
  intro p e s m args below meth c s₁ B hml hv
  obtain ⟨rfl, hE, hP⟩ := hv
  have hx := B.exec
  have hb := B.bytes
  have hr := B.returns
  have hts := atoms_spec (ws := wsX8_fault) B.pre
  have hown : s.vm.findClass RX8 = some m.cls := findClass_of_methodNamed B.named
  have hlocks := B.notSynchronized
  have hi8 : ∀ w ∈ u_ws RX8 TX8 7, w ∈ wsX8_fault := by decide +kernel
  have hw0 := hts (.fieldLink RX8 19 "HailNames" "pad" "LHailNames$Pad;") (by decide +kernel)
  have hl := lv_entry ([.ref (dd 14 0)]) (n := 1) (Nat.le_of_ble_eq_true rfl)
  rw [lg_entry_eq]
  generalize (lg_sl ([.ref (dd 14 0)]) ++ List.replicate (1 - (lg_sl ([.ref (dd 14 0)])).length) Slot.unset).toArray = ls at hl ⊢
  have hl : lv_has ls 1 [(0, .ref (dd 14 0))] := hl
  have ht := (xX8_fault_s S1).symm.trans ht
  refine lv_aload_n hx hb dX8_fault_0 rfl (lv_at hl 0 rfl) ?_
  refine va_get (D := D) (ci := 8) (v := .ref (dd 1 0)) (C := RX8) (T := TX8) (N := 7) hx hb hts hi8 hown hE.1 hP 2 rfl rfl 1 (by decide) hw0 (fun _ h9 => h9) rfl dX8_fault_1 ?_
  obtain ⟨q1, hq1, ht⟩ := it_b ht
  have hPc : va_P D vwCl (wg4 cI cZ (dd 1) S1) s.heap := hP.sub [0, 1] rfl
  refine q_ri (va_runV (As := []) (rest := []) ⟨hx, hb, hml, hown, hts⟩ (kX4_firstFault l D cI cZ cO (dd 1) S1 q1 hq1) (cwV 0 hts gX8_fault_X4_firstFault rfl rfl rfl (by decide +kernel) ⟨Nat.le_of_ble_eq_true rfl, Nat.le_of_ble_eq_true rfl⟩) (q_rV (As := []) hE hPc (q0 := 0) (ci := 4) rfl rfl) rfl rfl hl.1 rfl (lv_room (Nat.le_of_ble_eq_true rfl)) dX8_fault_4 ⟨Nat.le_of_ble_eq_true rfl, Nat.le_of_ble_eq_true rfl⟩) (fun b2 => ?_)
  have ht := Option.some.inj ht
  exact W.iret (v := q1) hx hb hr (fun t e1 hW => ⟨_, rfl, ⟨ht, trivial⟩, e1⟩) (fun q h => absurd h List.not_mem_nil) dX8_fault_7
