abbrev rmX9_deed : Room := { frames := 0, cells := 0, slots := 0, locals := 0 }
set_option maxHeartbeats 4000000 in
set_option maxRecDepth 100000 in
theorem kX9_deed (l : Launch) (D : va_G) (cI cZ cO : ClassId) (d0 : Nat → Nat) (S0 : St) (p0 : Int32) (tg : Int32) (ht : xX9_deed S0 p0 = some tg) : Met l yX9_deed wsX9_deed rmX9_deed (q_PR D cI cZ cO [.ref (d0 0), .int p0] (wg9 cI cZ d0 S0)) (vp_Si (fun x => x = tg ∧ True)) 0 0 (fun _ => False) := by
  refine Met.ofW (cc := cX9_deed) (maxL := 2) (ret := (some .int)) (by decide) rfl ?_
  intro p e s m args below meth c s₁ B hml hv
  obtain ⟨rfl, hE, hP⟩ := hv
  have hx := B.exec
  have hb := B.bytes
  have hr := B.returns
  have hts := atoms_spec (ws := wsX9_deed) B.pre
  have hown : s.vm.findClass RX9 = some m.cls := findClass_of_methodNamed B.named
  have hlocks := B.notSynchronized
  have hl := lv_entry ([.ref (d0 0), .int p0]) (n := 2) (Nat.le_of_ble_eq_true rfl)
  rw [lg_entry_eq]
  generalize (lg_sl ([.ref (d0 0), .int p0]) ++ List.replicate (2 - (lg_sl ([.ref (d0 0), .int p0])).length) Slot.unset).toArray = ls at hl ⊢
  have hl : lv_has ls 2 [(0, .ref (d0 0)), (1, .int p0)] := hl
  have ht := (xX9_deed_s S0 p0).symm.trans ht
  refine lv_iload_n hx hb dX9_deed_0 rfl (lv_at hl 1 rfl) ?_
  refine lv_bipush (v := 62) hx hb dX9_deed_1 (by decide) ?_
  refine lv_icmp_ne (tgt := 10) hx hb dX9_deed_3 (by decide) (fun c1 => ?_) (fun c1 => ?_)
  · have ht := it_n c1 ht
    refine lv_iload_n hx hb dX9_deed_10 rfl (lv_at hl 1 rfl) ?_
    refine lv_bipush (v := 64) hx hb dX9_deed_11 (by decide) ?_
    refine lv_icmp_ne (tgt := 20) hx hb dX9_deed_13 (by decide) (fun c2 => ?_) (fun c2 => ?_)
    · have ht := it_n c2 ht
      refine lv_bipush (v := (-6)) hx hb dX9_deed_20 (by decide) ?_
      have ht := Option.some.inj ht
      exact W.iret (v := (-6)) hx hb hr (fun t e1 hW => ⟨_, rfl, ⟨ht, trivial⟩, e1⟩) (fun q h => absurd h List.not_mem_nil) dX9_deed_22
    · have ht := it_p c2 ht
      refine lv_iconst (v := 4) hx hb dX9_deed_16 (by decide) ?_
      refine lv_goto (tgt := 22) hx hb dX9_deed_17 (by decide) ?_
      have ht := Option.some.inj ht
      exact W.iret (v := 4) hx hb hr (fun t e1 hW => ⟨_, rfl, ⟨ht, trivial⟩, e1⟩) (fun q h => absurd h List.not_mem_nil) dX9_deed_22
  · have ht := it_p c1 ht
    refine lv_iconst (v := 3) hx hb dX9_deed_6 (by decide) ?_
    refine lv_goto (tgt := 22) hx hb dX9_deed_7 (by decide) ?_
    have ht := Option.some.inj ht
    exact W.iret (v := 3) hx hb hr (fun t e1 hW => ⟨_, rfl, ⟨ht, trivial⟩, e1⟩) (fun q h => absurd h List.not_mem_nil) dX9_deed_22
abbrev rmX9_step : Room := { frames := 1, cells := 0, slots := 0, locals := 22 }
set_option maxHeartbeats 4000000 in
set_option maxRecDepth 100000 in
theorem kX9_step (l : Launch) (D : va_G) (cI cZ cO : ClassId) (d0 : Nat → Nat) (sz : Nat) (S0 : St) (p0 : Int32) (tg : Int32 × St) (ht : xX9_step p0 S0 = some tg) : Met l yX9_step wsX9_step rmX9_step (q_PM D cI cZ cO [.ref (d0 0), .int p0] sz (wg9 cI cZ d0 S0)) (va_Qi (fun x (_ : Unit) => x = tg.1 ∧ True) (fun _ t => va_P D vwCl (wg9 cI cZ d0 tg.2) t.heap) (va_A (wg9 cI cZ d0 S0) sz)) 0 0 (va_A (wg9 cI cZ d0 S0) sz) := by
  refine Met.ofW (cc := cX9_step) (maxL := 2) (ret := (some .int)) (by decide) rfl ?_
  intro p e s m args below meth c s₁ B hml hv
  obtain ⟨rfl, hsz, hE, hP, hD0⟩ := hv
  have hx := B.exec
  have hb := B.bytes
  have hr := B.returns
  have hts := atoms_spec (ws := wsX9_step) B.pre
  have hown : s.vm.findClass RX9 = some m.cls := findClass_of_methodNamed B.named
  have hlocks := B.notSynchronized
  subst hsz
  have hD1 := hD0.self (sz := s.heap.size)
  generalize hAe : va_A (wg9 cI cZ d0 S0) s.heap.size = A at hD1 ⊢
  have hA : ∀ q : Nat, s.heap.size ≤ q → A q := fun q h => by rw [← hAe]; exact Or.inr h
  have hS : va_S A s.heap s.heap [] := va_S.rf
  have hD : ∀ (S0 : St), va_D A (wg9 cI cZ d0 S0) := fun S0 => q_D hD1 rfl
  have hl := lv_entry ([.ref (d0 0), .int p0]) (n := 2) (Nat.le_of_ble_eq_true rfl)
  rw [lg_entry_eq]
  generalize (lg_sl ([.ref (d0 0), .int p0]) ++ List.replicate (2 - (lg_sl ([.ref (d0 0), .int p0])).length) Slot.unset).toArray = ls at hl ⊢
  have hl : lv_has ls 2 [(0, .ref (d0 0)), (1, .int p0)] := hl
  have ht := (xX9_step_s p0 S0).symm.trans ht
  refine lv_iload_n hx hb dX9_step_0 rfl (lv_at hl 1 rfl) ?_
  refine lv_bipush (v := 62) hx hb dX9_step_1 (by decide) ?_
  refine lv_icmp_ne (tgt := 15) hx hb dX9_step_3 (by decide) (fun c1 => ?_) (fun c1 => ?_)
  · have ht := it_n c1 ht
    refine lv_iload_n hx hb dX9_step_15 rfl (lv_at hl 1 rfl) ?_
    refine lv_bipush (v := 60) hx hb dX9_step_16 (by decide) ?_
    refine lv_icmp_ne (tgt := 30) hx hb dX9_step_18 (by decide) (fun c2 => ?_) (fun c2 => ?_)
    · have ht := it_n c2 ht
      refine lv_iload_n hx hb dX9_step_30 rfl (lv_at hl 1 rfl) ?_
      refine lv_bipush (v := 63) hx hb dX9_step_31 (by decide) ?_
      refine lv_icmp_ne (tgt := 40) hx hb dX9_step_33 (by decide) (fun c3 => ?_) (fun c3 => ?_)
      · have ht := it_n c3 ht
        refine lv_bipush (v := (-6)) hx hb dX9_step_40 (by decide) ?_
        obtain rfl := Option.some.inj ht
        exact W.iret (v := (-6)) hx hb hr (fun t e1 hW => ⟨⟨_, (), rfl, ⟨rfl, trivial⟩, q_at e1 hP⟩, hS.F e1⟩) hS.2.2 dX9_step_42
      · have ht := it_p c3 ht
        refine lv_iconst (v := 5) hx hb dX9_step_36 (by decide) ?_
        refine lv_goto (tgt := 42) hx hb dX9_step_37 (by decide) ?_
        obtain rfl := Option.some.inj ht
        exact W.iret (v := 5) hx hb hr (fun t e1 hW => ⟨⟨_, (), rfl, ⟨rfl, trivial⟩, q_at e1 hP⟩, hS.F e1⟩) hS.2.2 dX9_step_42
    · have ht := it_p c2 ht
      refine lv_aload_n hx hb dX9_step_21 rfl (lv_at hl 0 rfl) ?_
      refine lv_iconst (v := 3) hx hb dX9_step_22 (by decide) ?_
      refine lv_iconst (v := 0) hx hb dX9_step_23 (by decide) ?_
      obtain ⟨q4, hq4, ht⟩ := it_b ht
      have hFc := q_freeW (hD S0) hS hA
      refine q_mi (va_runV (As := [.int 3, .int 0]) (rest := []) ⟨hx, hb, hml, hown, hts⟩ (kX9_close l D cI cZ cO d0 s.heap.size S0 3 0 q4 hq4) (cwV 2 hts gX9_step_X9_close rfl rfl rfl (by decide +kernel) ⟨Nat.le_of_ble_eq_true rfl, Nat.le_of_ble_eq_true rfl⟩) (q_mV (As := [.int 3, .int 0]) hE hP (hD S0) (q0 := 0) (ci := 9) rfl rfl) rfl rfl hl.1 rfl (lv_room (Nat.le_of_ble_eq_true rfl)) dX9_step_24 ⟨Nat.le_of_ble_eq_true rfl, Nat.le_of_ble_eq_true rfl⟩) hS hFc (fun H locs b5 hP1 hk hS => ?_)
      have hP : va_P D vwCl (wg9 cI cZ d0 q4.2) H := hP1
      refine lv_goto (tgt := 42) hx hb dX9_step_27 (by decide) ?_
      obtain rfl := Option.some.inj ht
      exact W.iret (v := q4.1) hx hb hr (fun t e1 hW => ⟨⟨_, (), rfl, ⟨rfl, trivial⟩, q_at e1 hP⟩, hS.F e1⟩) hS.2.2 dX9_step_42
  · have ht := it_p c1 ht
    refine lv_aload_n hx hb dX9_step_6 rfl (lv_at hl 0 rfl) ?_
    refine lv_iconst (v := 2) hx hb dX9_step_7 (by decide) ?_
    refine lv_iconst (v := 0) hx hb dX9_step_8 (by decide) ?_
    obtain ⟨q6, hq6, ht⟩ := it_b ht
    have hFc := q_freeW (hD S0) hS hA
    refine q_mi (va_runV (As := [.int 2, .int 0]) (rest := []) ⟨hx, hb, hml, hown, hts⟩ (kX9_close l D cI cZ cO d0 s.heap.size S0 2 0 q6 hq6) (cwV 2 hts gX9_step_X9_close rfl rfl rfl (by decide +kernel) ⟨Nat.le_of_ble_eq_true rfl, Nat.le_of_ble_eq_true rfl⟩) (q_mV (As := [.int 2, .int 0]) hE hP (hD S0) (q0 := 0) (ci := 9) rfl rfl) rfl rfl hl.1 rfl (lv_room (Nat.le_of_ble_eq_true rfl)) dX9_step_9 ⟨Nat.le_of_ble_eq_true rfl, Nat.le_of_ble_eq_true rfl⟩) hS hFc (fun H locs b7 hP1 hk hS => ?_)
    have hP : va_P D vwCl (wg9 cI cZ d0 q6.2) H := hP1
    refine lv_goto (tgt := 42) hx hb dX9_step_12 (by decide) ?_
    obtain rfl := Option.some.inj ht
    exact W.iret (v := q6.1) hx hb hr (fun t e1 hW => ⟨⟨_, (), rfl, ⟨rfl, trivial⟩, q_at e1 hP⟩, hS.F e1⟩) hS.2.2 dX9_step_42
abbrev rmX9_readOn : Room := { frames := 2, cells := 0, slots := 0, locals := 48 }
set_option maxHeartbeats 4000000 in
set_option maxRecDepth 100000 in
theorem kX9_readOn (l : Launch) (D : va_G) (cI cZ cO : ClassId) (d0 : Nat → Nat) (sz : Nat) (S0 : St) (p0 : Int32) (p1 : Int32) (tg : Int32 × St) (ht : xX9_readOn p0 p1 S0 = some tg) : Met l yX9_readOn wsX9_readOn rmX9_readOn (q_PM D cI cZ cO [.ref (d0 0), .int p0, .int p1] sz (wg9 cI cZ d0 S0)) (va_Qi (fun x (_ : Unit) => x = tg.1 ∧ True) (fun _ t => va_P D vwCl (wg9 cI cZ d0 tg.2) t.heap) (va_A (wg9 cI cZ d0 S0) sz)) 0 0 (va_A (wg9 cI cZ d0 S0) sz) := by
  refine Met.ofW (cc := cX9_readOn) (maxL := 3) (ret := (some .int)) (by decide) rfl ?_
  intro p e s m args below meth c s₁ B hml hv
  obtain ⟨rfl, hsz, hE, hP, hD0⟩ := hv
  have hx := B.exec
  have hb := B.bytes
  have hr := B.returns
  have hts := atoms_spec (ws := wsX9_readOn) B.pre
  have hown : s.vm.findClass RX9 = some m.cls := findClass_of_methodNamed B.named
  have hlocks := B.notSynchronized
  have hw0 := hts (.constantLong RX9 121 (65)) (by decide +kernel)
  have hw1 := hts (.constantLong RX9 123 (72)) (by decide +kernel)
  have hw2 := hts (.constantLong RX9 143 (97)) (by decide +kernel)
  have hw3 := hts (.constantLong RX9 145 (108)) (by decide +kernel)
  subst hsz
  have hD1 := hD0.self (sz := s.heap.size)
  generalize hAe : va_A (wg9 cI cZ d0 S0) s.heap.size = A at hD1 ⊢
  have hA : ∀ q : Nat, s.heap.size ≤ q → A q := fun q h => by rw [← hAe]; exact Or.inr h
  have hS : va_S A s.heap s.heap [] := va_S.rf
  have hD : ∀ (S0 : St), va_D A (wg9 cI cZ d0 S0) := fun S0 => q_D hD1 rfl
  have hl := lv_entry ([.ref (d0 0), .int p0, .int p1]) (n := 3) (Nat.le_of_ble_eq_true rfl)
  rw [lg_entry_eq]
  generalize (lg_sl ([.ref (d0 0), .int p0, .int p1]) ++ List.replicate (3 - (lg_sl ([.ref (d0 0), .int p0, .int p1])).length) Slot.unset).toArray = ls at hl ⊢
  have hl : lv_has ls 3 [(0, .ref (d0 0)), (1, .int p0), (2, .int p1)] := hl
  have ht := (xX9_readOn_s p0 p1 S0).symm.trans ht
  obtain ⟨Q, hQ⟩ : ∃ Q, Q = MQ below (va_Qi (fun x (_ : Unit) => x = tg.1 ∧ True) (fun _ t => va_P D vwCl (wg9 cI cZ d0 tg.2) t.heap) A) ([.ref (d0 0), .int p0, .int p1] : List Value).toArray s 0 0 A := ⟨_, rfl⟩
  rw [← hQ]
  have J108 : ∀ (z1 : Int32) (S0 : St) (H : Heap) (locs : List Loc) (_ : va_P D vwCl (wg9 cI cZ d0 S0) H) (_ : va_S A s.heap H locs) (ls : Array Slot) (_ : lv_has ls 3 [(2, .int p1)]) (_ : xX9_readOn_h108 p0 p1 z1 S0 = some tg), W p l e (headSpec wsX9_readOn rmX9_readOn).room s m ([.ref (d0 0), .int p0, .int p1] : List Value).toArray below meth c H locs 0 0 Q (F0 m 108 ls [.int z1, .ref (d0 0)]) := by
    intro z1 S0 H locs hP hS ls hl ht
    have ht := (xX9_readOn_h108_s p0 p1 z1 S0).symm.trans ht
    refine lv_iload_n hx hb dX9_readOn_108 rfl (lv_at hl 0 rfl) ?_
    refine lv_bipush (v := 65) hx hb dX9_readOn_109 (by decide) ?_
    refine lv_isub hx hb dX9_readOn_111 ?_
    obtain ⟨q22, hq22, ht⟩ := it_b ht
    have hFc := q_freeW (hD S0) hS hA
    refine q_mi (va_runV (As := [.int z1, .int (p1 - 65)]) (rest := []) ⟨hx, hb, hml, hown, hts⟩ (kX9_close l D cI cZ cO d0 H.size S0 z1 (p1 - 65) q22 hq22) (cwV 2 hts gX9_readOn_X9_close rfl rfl rfl (by decide +kernel) ⟨Nat.le_of_ble_eq_true rfl, Nat.le_of_ble_eq_true rfl⟩) (q_mV (As := [.int z1, .int (p1 - 65)]) hE hP (hD S0) (q0 := 0) (ci := 9) rfl rfl) rfl rfl hl.1 rfl (lv_room (Nat.le_of_ble_eq_true rfl)) dX9_readOn_112 ⟨Nat.le_of_ble_eq_true rfl, Nat.le_of_ble_eq_true rfl⟩) hS hFc (fun H locs b23 hP1 hk hS => ?_)
    have hP : va_P D vwCl (wg9 cI cZ d0 q22.2) H := hP1
    refine lv_goto (tgt := 120) hx hb dX9_readOn_115 (by decide) ?_
    subst hQ
    obtain rfl := Option.some.inj ht
    exact W.iret (v := q22.1) hx hb hr (fun t e1 hW => ⟨⟨_, (), rfl, ⟨rfl, trivial⟩, q_at e1 hP⟩, hS.F e1⟩) hS.2.2 dX9_readOn_120
  refine lv_iload_n hx hb dX9_readOn_0 rfl (lv_at hl 1 rfl) ?_
  by_cases c1 : p0 = 0
  · have ht := it_p c1 ht
    refine lv_tableIn (tgt := 36) hx hb dX9_readOn_1 (by rw [c1]; decide) (by rw [c1]; decide) (by rw [c1]; rfl) (by decide) ?_
    refine lv_aload_n hx hb dX9_readOn_36 rfl (lv_at hl 0 rfl) ?_
    refine lv_iload_n hx hb dX9_readOn_37 rfl (lv_at hl 2 rfl) ?_
    obtain ⟨q2, hq2, ht⟩ := it_b ht
    have hFc := q_freeW (hD S0) hS hA
    refine q_mi (va_runV (As := [.int p1]) (rest := []) ⟨hx, hb, hml, hown, hts⟩ (kX9_begin l D cI cZ cO d0 s.heap.size S0 p1 q2 hq2) (cwV 1 hts gX9_readOn_X9_begin rfl rfl rfl (by decide +kernel) ⟨Nat.le_of_ble_eq_true rfl, Nat.le_of_ble_eq_true rfl⟩) (q_mV (As := [.int p1]) hE hP (hD S0) (q0 := 0) (ci := 9) rfl rfl) rfl rfl hl.1 rfl (lv_room (Nat.le_of_ble_eq_true rfl)) dX9_readOn_38 ⟨Nat.le_of_ble_eq_true rfl, Nat.le_of_ble_eq_true rfl⟩) hS hFc (fun H locs b3 hP1 hk hS => ?_)
    have hP : va_P D vwCl (wg9 cI cZ d0 q2.2) H := hP1
    subst hQ
    obtain rfl := Option.some.inj ht
    exact W.iret (v := q2.1) hx hb hr (fun t e1 hW => ⟨⟨_, (), rfl, ⟨rfl, trivial⟩, q_at e1 hP⟩, hS.F e1⟩) hS.2.2 dX9_readOn_41
  have ht := it_n c1 ht
  by_cases c4 : p0 = 1
  · have ht := it_p c4 ht
    refine lv_tableIn (tgt := 42) hx hb dX9_readOn_1 (by rw [c4]; decide) (by rw [c4]; decide) (by rw [c4]; rfl) (by decide) ?_
    refine lv_aload_n hx hb dX9_readOn_42 rfl (lv_at hl 0 rfl) ?_
    refine lv_iload_n hx hb dX9_readOn_43 rfl (lv_at hl 2 rfl) ?_
    obtain ⟨q5, hq5, ht⟩ := it_b ht
    refine q_ri (va_runV (As := [.int p1]) (rest := []) ⟨hx, hb, hml, hown, hts⟩ (kX9_deed l D cI cZ cO d0 S0 p1 q5 hq5) (cwV 1 hts gX9_readOn_X9_deed rfl rfl rfl (by decide +kernel) ⟨Nat.le_of_ble_eq_true rfl, Nat.le_of_ble_eq_true rfl⟩) (q_rV (As := [.int p1]) hE hP (q0 := 0) (ci := 9) rfl rfl) rfl rfl hl.1 rfl (lv_room (Nat.le_of_ble_eq_true rfl)) dX9_readOn_44 ⟨Nat.le_of_ble_eq_true rfl, Nat.le_of_ble_eq_true rfl⟩) (fun b6 => ?_)
    subst hQ
    obtain rfl := Option.some.inj ht
    exact W.iret (v := q5) hx hb hr (fun t e1 hW => ⟨⟨_, (), rfl, ⟨rfl, trivial⟩, q_at e1 hP⟩, hS.F e1⟩) hS.2.2 dX9_readOn_47
  have ht := it_n c4 ht
  by_cases c7 : p0 = 2
  · have ht := it_p c7 ht
    refine lv_tableIn (tgt := 48) hx hb dX9_readOn_1 (by rw [c7]; decide) (by rw [c7]; decide) (by rw [c7]; rfl) (by decide) ?_
    refine lv_aload_n hx hb dX9_readOn_48 rfl (lv_at hl 0 rfl) ?_
    refine lv_iload_n hx hb dX9_readOn_49 rfl (lv_at hl 2 rfl) ?_
    obtain ⟨q8, hq8, ht⟩ := it_b ht
    have hFc := q_freeW (hD S0) hS hA
    refine q_mi (va_runV (As := [.int p1]) (rest := []) ⟨hx, hb, hml, hown, hts⟩ (kX9_step l D cI cZ cO d0 s.heap.size S0 p1 q8 hq8) (cwV 1 hts gX9_readOn_X9_step rfl rfl rfl (by decide +kernel) ⟨Nat.le_of_ble_eq_true rfl, Nat.le_of_ble_eq_true rfl⟩) (q_mV (As := [.int p1]) hE hP (hD S0) (q0 := 0) (ci := 9) rfl rfl) rfl rfl hl.1 rfl (lv_room (Nat.le_of_ble_eq_true rfl)) dX9_readOn_50 ⟨Nat.le_of_ble_eq_true rfl, Nat.le_of_ble_eq_true rfl⟩) hS hFc (fun H locs b9 hP1 hk hS => ?_)
    have hP : va_P D vwCl (wg9 cI cZ d0 q8.2) H := hP1
    subst hQ
    obtain rfl := Option.some.inj ht
    exact W.iret (v := q8.1) hx hb hr (fun t e1 hW => ⟨⟨_, (), rfl, ⟨rfl, trivial⟩, q_at e1 hP⟩, hS.F e1⟩) hS.2.2 dX9_readOn_53
  have ht := it_n c7 ht
  by_cases c10 : p0 = 3
  · have ht := it_p c10 ht
    refine lv_tableIn (tgt := 83) hx hb dX9_readOn_1 (by rw [c10]; decide) (by rw [c10]; decide) (by rw [c10]; rfl) (by decide) ?_
    refine lv_iload_n hx hb dX9_readOn_83 rfl (lv_at hl 2 rfl) ?_
    refine lv_i2l (v := p1.toInt64) hx hb dX9_readOn_84 rfl ?_
    refine lv_ldc2 hx hb hown hw0 dX9_readOn_85 ?_
    refine lv_ldc2 hx hb hown hw1 dX9_readOn_88 ?_
    refine q_ri (va_runS (As := [.long p1.toInt64, .long 65, .long 72]) (rest := []) ⟨hx, hb, hml, hown, hts⟩ (kX9_in l D cI cZ cO p1.toInt64 65 72) (va_cwS 3 hts gX9_readOn_X9_in rfl rfl rfl (by decide +kernel) ⟨Nat.le_of_ble_eq_true rfl, Nat.le_of_ble_eq_true rfl⟩) (q_rS hE q_nil) rfl rfl hl.1 rfl (lv_room (Nat.le_of_ble_eq_true rfl)) dX9_readOn_91 ⟨Nat.le_of_ble_eq_true rfl, Nat.le_of_ble_eq_true rfl⟩) (fun b11 => ?_)
    refine lv_if_eq (tgt := 118) hx hb dX9_readOn_94 (by decide) (fun c12 => ?_) (fun c12 => ?_)
    · have ht := it_p c12 ht
      refine lv_bipush (v := (-6)) hx hb dX9_readOn_118 (by decide) ?_
      subst hQ
      obtain rfl := Option.some.inj ht
      exact W.iret (v := (-6)) hx hb hr (fun t e1 hW => ⟨⟨_, (), rfl, ⟨rfl, trivial⟩, q_at e1 hP⟩, hS.F e1⟩) hS.2.2 dX9_readOn_120
    · have ht := it_n c12 ht
      refine lv_aload_n hx hb dX9_readOn_97 rfl (lv_at hl 0 rfl) ?_
      refine lv_iload_n hx hb dX9_readOn_98 rfl (lv_at hl 1 rfl) ?_
      refine lv_iconst (v := 3) hx hb dX9_readOn_99 (by decide) ?_
      refine lv_icmp_ne (tgt := 107) hx hb dX9_readOn_100 (by decide) (fun c13 => ?_) (fun c13 => ?_)
      · have ht := it_n c13 ht
        refine lv_iconst (v := 4) hx hb dX9_readOn_107 (by decide) ?_
        exact J108 4 S0 _ _ hP hS ls (lv_sub hl [2] rfl) ht
      · have ht := it_p c13 ht
        refine lv_iconst (v := 0) hx hb dX9_readOn_103 (by decide) ?_
        refine lv_goto (tgt := 108) hx hb dX9_readOn_104 (by decide) ?_
        exact J108 0 S0 _ _ hP hS ls (lv_sub hl [2] rfl) ht
  have ht := it_n c10 ht
  by_cases c14 : p0 = 4
  · have ht := it_p c14 ht
    refine lv_tableIn (tgt := 54) hx hb dX9_readOn_1 (by rw [c14]; decide) (by rw [c14]; decide) (by rw [c14]; rfl) (by decide) ?_
    refine lv_iload_n hx hb dX9_readOn_54 rfl (lv_at hl 2 rfl) ?_
    refine lv_i2l (v := p1.toInt64) hx hb dX9_readOn_55 rfl ?_
    refine lv_ldc2 hx hb hown hw2 dX9_readOn_56 ?_
    refine lv_ldc2 hx hb hown hw3 dX9_readOn_59 ?_
    refine q_ri (va_runS (As := [.long p1.toInt64, .long 97, .long 108]) (rest := []) ⟨hx, hb, hml, hown, hts⟩ (kX9_in l D cI cZ cO p1.toInt64 97 108) (va_cwS 3 hts gX9_readOn_X9_in rfl rfl rfl (by decide +kernel) ⟨Nat.le_of_ble_eq_true rfl, Nat.le_of_ble_eq_true rfl⟩) (q_rS hE q_nil) rfl rfl hl.1 rfl (lv_room (Nat.le_of_ble_eq_true rfl)) dX9_readOn_62 ⟨Nat.le_of_ble_eq_true rfl, Nat.le_of_ble_eq_true rfl⟩) (fun b15 => ?_)
    refine lv_if_eq (tgt := 80) hx hb dX9_readOn_65 (by decide) (fun c16 => ?_) (fun c16 => ?_)
    · have ht := it_p c16 ht
      refine lv_bipush (v := (-6)) hx hb dX9_readOn_80 (by decide) ?_
      subst hQ
      obtain rfl := Option.some.inj ht
      exact W.iret (v := (-6)) hx hb hr (fun t e1 hW => ⟨⟨_, (), rfl, ⟨rfl, trivial⟩, q_at e1 hP⟩, hS.F e1⟩) hS.2.2 dX9_readOn_82
    · have ht := it_n c16 ht
      refine lv_aload_n hx hb dX9_readOn_68 rfl (lv_at hl 0 rfl) ?_
      refine lv_iconst (v := 1) hx hb dX9_readOn_69 (by decide) ?_
      refine lv_iload_n hx hb dX9_readOn_70 rfl (lv_at hl 2 rfl) ?_
      refine lv_bipush (v := 97) hx hb dX9_readOn_71 (by decide) ?_
      refine lv_isub hx hb dX9_readOn_73 ?_
      obtain ⟨q17, hq17, ht⟩ := it_b ht
      have hFc := q_freeW (hD S0) hS hA
      refine q_mi (va_runV (As := [.int 1, .int (p1 - 97)]) (rest := []) ⟨hx, hb, hml, hown, hts⟩ (kX9_close l D cI cZ cO d0 s.heap.size S0 1 (p1 - 97) q17 hq17) (cwV 2 hts gX9_readOn_X9_close rfl rfl rfl (by decide +kernel) ⟨Nat.le_of_ble_eq_true rfl, Nat.le_of_ble_eq_true rfl⟩) (q_mV (As := [.int 1, .int (p1 - 97)]) hE hP (hD S0) (q0 := 0) (ci := 9) rfl rfl) rfl rfl hl.1 rfl (lv_room (Nat.le_of_ble_eq_true rfl)) dX9_readOn_74 ⟨Nat.le_of_ble_eq_true rfl, Nat.le_of_ble_eq_true rfl⟩) hS hFc (fun H locs b18 hP1 hk hS => ?_)
      have hP : va_P D vwCl (wg9 cI cZ d0 q17.2) H := hP1
      refine lv_goto (tgt := 82) hx hb dX9_readOn_77 (by decide) ?_
      subst hQ
      obtain rfl := Option.some.inj ht
      exact W.iret (v := q17.1) hx hb hr (fun t e1 hW => ⟨⟨_, (), rfl, ⟨rfl, trivial⟩, q_at e1 hP⟩, hS.F e1⟩) hS.2.2 dX9_readOn_82
  have ht := it_n c14 ht
  refine lv_tableOut (tgt := 83) hx hb dX9_readOn_1 (by have n0 := lv_neT c1 (show (0 : Int32).toInt = 0 by decide); have n1 := lv_neT c4 (show (1 : Int32).toInt = 1 by decide); have n2 := lv_neT c7 (show (2 : Int32).toInt = 2 by decide); have n3 := lv_neT c10 (show (3 : Int32).toInt = 3 by decide); have n4 := lv_neT c14 (show (4 : Int32).toInt = 4 by decide); omega) (by decide) ?_
  refine lv_iload_n hx hb dX9_readOn_83 rfl (lv_at hl 2 rfl) ?_
  refine lv_i2l (v := p1.toInt64) hx hb dX9_readOn_84 rfl ?_
  refine lv_ldc2 hx hb hown hw0 dX9_readOn_85 ?_
  refine lv_ldc2 hx hb hown hw1 dX9_readOn_88 ?_
  refine q_ri (va_runS (As := [.long p1.toInt64, .long 65, .long 72]) (rest := []) ⟨hx, hb, hml, hown, hts⟩ (kX9_in l D cI cZ cO p1.toInt64 65 72) (va_cwS 3 hts gX9_readOn_X9_in rfl rfl rfl (by decide +kernel) ⟨Nat.le_of_ble_eq_true rfl, Nat.le_of_ble_eq_true rfl⟩) (q_rS hE q_nil) rfl rfl hl.1 rfl (lv_room (Nat.le_of_ble_eq_true rfl)) dX9_readOn_91 ⟨Nat.le_of_ble_eq_true rfl, Nat.le_of_ble_eq_true rfl⟩) (fun b19 => ?_)
  refine lv_if_eq (tgt := 118) hx hb dX9_readOn_94 (by decide) (fun c20 => ?_) (fun c20 => ?_)
  · have ht := it_p c20 ht
    refine lv_bipush (v := (-6)) hx hb dX9_readOn_118 (by decide) ?_
    subst hQ
    obtain rfl := Option.some.inj ht
    exact W.iret (v := (-6)) hx hb hr (fun t e1 hW => ⟨⟨_, (), rfl, ⟨rfl, trivial⟩, q_at e1 hP⟩, hS.F e1⟩) hS.2.2 dX9_readOn_120
  · have ht := it_n c20 ht
    refine lv_aload_n hx hb dX9_readOn_97 rfl (lv_at hl 0 rfl) ?_
    refine lv_iload_n hx hb dX9_readOn_98 rfl (lv_at hl 1 rfl) ?_
    refine lv_iconst (v := 3) hx hb dX9_readOn_99 (by decide) ?_
    refine lv_icmp_ne (tgt := 107) hx hb dX9_readOn_100 (by decide) (fun c21 => ?_) (fun c21 => ?_)
    · have ht := it_n c21 ht
      refine lv_iconst (v := 4) hx hb dX9_readOn_107 (by decide) ?_
      exact J108 4 S0 _ _ hP hS ls (lv_sub hl [2] rfl) ht
    · have ht := it_p c21 ht
      refine lv_iconst (v := 0) hx hb dX9_readOn_103 (by decide) ?_
      refine lv_goto (tgt := 108) hx hb dX9_readOn_104 (by decide) ?_
      exact J108 0 S0 _ _ hP hS ls (lv_sub hl [2] rfl) ht
abbrev rmX9_fault : Room := { frames := 3, cells := 0, slots := 0, locals := 70 }
set_option maxHeartbeats 4000000 in
set_option maxRecDepth 100000 in
theorem kX9_fault (l : Launch) (D : va_G) (cI cZ cO : ClassId) (d0 : Nat → Nat) (sz : Nat) (S0 : St) (tg : Int32 × St) (ht : xX9_fault S0 = some tg) : Met l yX9_fault wsX9_fault rmX9_fault (q_PM D cI cZ cO [.ref (d0 0)] sz (wg9 cI cZ d0 S0)) (va_Qi (fun x (_ : Unit) => x = tg.1 ∧ True) (fun _ t => va_P D vwCl (wg9 cI cZ d0 tg.2) t.heap) (va_A (wg9 cI cZ d0 S0) sz)) 0 0 (va_A (wg9 cI cZ d0 S0) sz) := by
  refine Met.ofW (cc := cX9_fault) (maxL := 3) (ret := (some .int)) (by decide) rfl ?_
  intro p e s m args below meth c s₁ B hml hv
  obtain ⟨rfl, hsz, hE, hP, hD0⟩ := hv
  have hx := B.exec
  have hb := B.bytes
  have hr := B.returns
  have hts := atoms_spec (ws := wsX9_fault) B.pre
  have hown : s.vm.findClass RX9 = some m.cls := findClass_of_methodNamed B.named
  have hlocks := B.notSynchronized
  have hi9 : ∀ w ∈ u_ws RX9 TX9 37, w ∈ wsX9_fault := by decide +kernel
  have hw0 := hts (.fieldLink RX9 118 "HailNamesModel" "acts" "I") (by decide +kernel)
  have hw1 := hts (.fieldLink RX9 115 "HailNamesModel" "padMany" "I") (by decide +kernel)
  have hw2 := hts (.fieldLink RX9 46 "HailNamesModel" "pad" "[I") (by decide +kernel)
  subst hsz
  have hD1 := hD0.self (sz := s.heap.size)
  generalize hAe : va_A (wg9 cI cZ d0 S0) s.heap.size = A at hD1 ⊢
  have hA : ∀ q : Nat, s.heap.size ≤ q → A q := fun q h => by rw [← hAe]; exact Or.inr h
  have hS : va_S A s.heap s.heap [] := va_S.rf
  have hD : ∀ (S0 : St), va_D A (wg9 cI cZ d0 S0) := fun S0 => q_D hD1 rfl
  have hl := lv_entry ([.ref (d0 0)]) (n := 3) (Nat.le_of_ble_eq_true rfl)
  rw [lg_entry_eq]
  generalize (lg_sl ([.ref (d0 0)]) ++ List.replicate (3 - (lg_sl ([.ref (d0 0)])).length) Slot.unset).toArray = ls at hl ⊢
  have hl : lv_has ls 3 [(0, .ref (d0 0))] := hl
  have ht := (xX9_fault_s S0).symm.trans ht
  obtain ⟨Q, hQ⟩ : ∃ Q, Q = MQ below (va_Qi (fun x (_ : Unit) => x = tg.1 ∧ True) (fun _ t => va_P D vwCl (wg9 cI cZ d0 tg.2) t.heap) A) ([.ref (d0 0)] : List Value).toArray s 0 0 A := ⟨_, rfl⟩
  rw [← hQ]
  have L9 : ∀ (n : Nat) (x1 : Int32) (x2 : Int32) (S0 : St) (H : Heap) (locs : List Loc) (_ : va_P D vwCl (wg9 cI cZ d0 S0) H) (_ : va_S A s.heap H locs) (ls : Array Slot) (_ : lv_has ls 3 [(0, .ref (d0 0)), (1, .int x1), (2, .int x2)]) (_ : xX9_fault_h9 n x1 x2 S0 = some tg), W p l e (headSpec wsX9_fault rmX9_fault).room s m ([.ref (d0 0)] : List Value).toArray below meth c H locs 0 0 Q (F0 m 9 ls []) := by
    intro n
    induction n with
    | zero =>
      intro x1 x2 S0 H locs hP hS ls hl ht
      exact it_z ht
    | succ n9 ih9 =>
      intro x1 x2 S0 H locs hP hS ls hl ht
      have ht := (xX9_fault_h9_s n9 x1 x2 S0).symm.trans ht
      refine lv_iload_n hx hb dX9_fault_9 rfl (lv_at hl 2 rfl) ?_
      refine lv_aload_n hx hb dX9_fault_10 rfl (lv_at hl 0 rfl) ?_
      refine va_get (D := D) (ci := 9) (v := .int (S0 16 0)) (C := RX9) (T := TX9) (N := 37) hx hb hts hi9 hown hE.1 hP 0 rfl rfl 16 (by decide) hw1 (fun _ h9 => h9) rfl dX9_fault_11 ?_
      refine lv_icmp_ge (tgt := 41) hx hb dX9_fault_14 (by decide) (fun c2 => ?_) (fun c2 => ?_)
      · have ht := it_p c2 ht
        refine lv_iload_n hx hb dX9_fault_41 rfl (lv_at hl 1 rfl) ?_
        refine lv_if_ne (tgt := 50) hx hb dX9_fault_42 (by decide) (fun c3 => ?_) (fun c3 => ?_)
        · have ht := it_n c3 ht
          refine lv_aload_n hx hb dX9_fault_50 rfl (lv_at hl 0 rfl) ?_
          refine va_get (D := D) (ci := 9) (v := .int (S0 16 0)) (C := RX9) (T := TX9) (N := 37) hx hb hts hi9 hown hE.1 hP 0 rfl rfl 16 (by decide) hw1 (fun _ h9 => h9) rfl dX9_fault_51 ?_
          subst hQ
          obtain rfl := Option.some.inj ht
          exact W.iret (v := S0 16 0) hx hb hr (fun t e1 hW => ⟨⟨_, (), rfl, ⟨rfl, trivial⟩, q_at e1 hP⟩, hS.F e1⟩) hS.2.2 dX9_fault_54
        · have ht := it_p c3 ht
          refine lv_bipush (v := (-6)) hx hb dX9_fault_45 (by decide) ?_
          refine lv_goto (tgt := 54) hx hb dX9_fault_47 (by decide) ?_
          subst hQ
          obtain rfl := Option.some.inj ht
          exact W.iret (v := (-6)) hx hb hr (fun t e1 hW => ⟨⟨_, (), rfl, ⟨rfl, trivial⟩, q_at e1 hP⟩, hS.F e1⟩) hS.2.2 dX9_fault_54
      · have ht := it_n c2 ht
        refine lv_aload_n hx hb dX9_fault_17 rfl (lv_at hl 0 rfl) ?_
        refine lv_iload_n hx hb dX9_fault_18 rfl (lv_at hl 1 rfl) ?_
        refine lv_aload_n hx hb dX9_fault_19 rfl (lv_at hl 0 rfl) ?_
        refine va_get (D := D) (ci := 9) (v := .ref (d0 16)) (C := RX9) (T := TX9) (N := 37) hx hb hts hi9 hown hE.1 hP 0 rfl rfl 15 (by decide) hw2 (fun _ h9 => h9) rfl dX9_fault_20 ?_
        refine lv_iload_n hx hb dX9_fault_23 rfl (lv_at hl 2 rfl) ?_
        obtain ⟨g4, ht⟩ := it_g ht
        refine va_iald hx hb hE.1 hP 13 0 rfl rfl (q_in g4) dX9_fault_24 ?_
        obtain ⟨q5, hq5, ht⟩ := it_b ht
        have hFc := q_freeW (hD S0) hS hA
        refine q_mi (va_runV (As := [.int x1, .int (S0 15 x2.toNatClampNeg)]) (rest := []) ⟨hx, hb, hml, hown, hts⟩ (kX9_readOn l D cI cZ cO d0 H.size S0 x1 (S0 15 x2.toNatClampNeg) q5 hq5) (cwV 2 hts gX9_fault_X9_readOn rfl rfl rfl (by decide +kernel) ⟨Nat.le_of_ble_eq_true rfl, Nat.le_of_ble_eq_true rfl⟩) (q_mV (As := [.int x1, .int (S0 15 x2.toNatClampNeg)]) hE hP (hD S0) (q0 := 0) (ci := 9) rfl rfl) rfl rfl hl.1 rfl (lv_room (Nat.le_of_ble_eq_true rfl)) dX9_fault_25 ⟨Nat.le_of_ble_eq_true rfl, Nat.le_of_ble_eq_true rfl⟩) hS hFc (fun H locs b6 hP1 hk hS => ?_)
        have hP : va_P D vwCl (wg9 cI cZ d0 q5.2) H := hP1
        refine lv_istore_n (lv' := [(1, .int q5.1), (0, .ref (d0 0)), (2, .int x2)]) hx hb dX9_fault_28 rfl hl (by decide) rfl (fun ls hl => ?_)
        refine lv_iload_n hx hb dX9_fault_29 rfl (lv_at hl 0 rfl) ?_
        refine lv_if_ge (tgt := 35) hx hb dX9_fault_30 (by decide) (fun c7 => ?_) (fun c7 => ?_)
        · have ht := it_p c7 ht
          refine lv_iinc (v := x2 + 1) (lv' := [(2, .int (x2 + 1)), (1, .int q5.1), (0, .ref (d0 0))]) hx hb dX9_fault_35 hl (k := 2) rfl rfl (by decide) rfl (fun ls hl => ?_)
          refine lv_goto (tgt := 9) hx hb dX9_fault_38 (by decide) ?_
          exact ih9 q5.1 (x2 + 1) q5.2 _ _ hP hS ls (lv_sub hl [2, 1, 0] rfl) ht
        · have ht := it_n c7 ht
          refine lv_iload_n hx hb dX9_fault_33 rfl (lv_at hl 2 rfl) ?_
          subst hQ
          obtain rfl := Option.some.inj ht
          exact W.iret (v := x2) hx hb hr (fun t e1 hW => ⟨⟨_, (), rfl, ⟨rfl, trivial⟩, q_at e1 hP⟩, hS.F e1⟩) hS.2.2 dX9_fault_34
  refine lv_aload_n hx hb dX9_fault_0 rfl (lv_at hl 0 rfl) ?_
  refine lv_iconst (v := 0) hx hb dX9_fault_1 (by decide) ?_
  refine va_put (D := D) (ci := 9) (v := .int 0) (ty := .int) (C := RX9) (T := TX9) (N := 37) hx hb hts hi9 tyX9 tyX9_ok nmX9 hown hE.1 hP (hD _) hS 0 rfl rfl 20 (by decide) hw0 (fun _ h9 => h9) rfl (by decide +kernel) rfl rfl (Nat.le_of_ble_eq_true rfl) dX9_fault_2 (fun H locs hP _ hS => ?_)
  have hP : va_P D vwCl (wg9 cI cZ d0 (q_su S0 20 0 0)) H := hP
  obtain ⟨T1, eT1⟩ : ∃ z : St, z = q_su S0 20 0 0 := ⟨_, rfl⟩
  rw [← eT1] at hP
  have ht := it_l ht eT1
  refine lv_iconst (v := 0) hx hb dX9_fault_5 (by decide) ?_
  refine lv_istore_n (lv' := [(1, .int 0), (0, .ref (d0 0))]) hx hb dX9_fault_6 rfl hl (by decide) rfl (fun ls hl => ?_)
  refine lv_iconst (v := 0) hx hb dX9_fault_7 (by decide) ?_
  refine lv_istore_n (lv' := [(2, .int 0), (1, .int 0), (0, .ref (d0 0))]) hx hb dX9_fault_8 rfl hl (by decide) rfl (fun ls hl => ?_)
  exact L9 5000 0 0 T1 _ _ hP hS ls (lv_sub hl [2, 1, 0] rfl) ht
abbrev rmX9_may : Room := { frames := 0, cells := 0, slots := 0, locals := 0 }
set_option maxHeartbeats 4000000 in
set_option maxRecDepth 100000 in
theorem kX9_may (l : Launch) (D : va_G) (cI cZ cO : ClassId) (d0 : Nat → Nat) (S0 : St) (p0 : Int32) (tg : Int32) (ht : xX9_may S0 p0 = some tg) : Met l yX9_may wsX9_may rmX9_may (q_PR D cI cZ cO [.ref (d0 0), .int p0] (wg9 cI cZ d0 S0)) (vp_Si (fun x => x = tg ∧ narrow .boolean (.int x) = .int x)) 0 0 (fun _ => False) := by
  refine Met.ofW (cc := cX9_may) (maxL := 2) (ret := (some .boolean)) (by decide) rfl ?_
  intro p e s m args below meth c s₁ B hml hv
  obtain ⟨rfl, hE, hP⟩ := hv
  have hx := B.exec
  have hb := B.bytes
  have hr := B.returns
  have hts := atoms_spec (ws := wsX9_may) B.pre
  have hown : s.vm.findClass RX9 = some m.cls := findClass_of_methodNamed B.named
  have hlocks := B.notSynchronized
  have hi9 : ∀ w ∈ u_ws RX9 TX9 37, w ∈ wsX9_may := by decide +kernel
  have hw0 := hts (.fieldLink RX9 28 "HailNamesModel" "stun" "[I") (by decide +kernel)
  have hw1 := hts (.fieldLink RX9 34 "HailNamesModel" "did" "[I") (by decide +kernel)
  have hl := lv_entry ([.ref (d0 0), .int p0]) (n := 2) (Nat.le_of_ble_eq_true rfl)
  rw [lg_entry_eq]
  generalize (lg_sl ([.ref (d0 0), .int p0]) ++ List.replicate (2 - (lg_sl ([.ref (d0 0), .int p0])).length) Slot.unset).toArray = ls at hl ⊢
  have hl : lv_has ls 2 [(0, .ref (d0 0)), (1, .int p0)] := hl
  have ht := (xX9_may_s S0 p0).symm.trans ht
  refine lv_aload_n hx hb dX9_may_0 rfl (lv_at hl 0 rfl) ?_
  refine va_get (D := D) (ci := 9) (v := .ref (d0 7)) (C := RX9) (T := TX9) (N := 37) hx hb hts hi9 hown hE.1 hP 0 rfl rfl 6 (by decide) hw0 (fun _ h9 => h9) rfl dX9_may_1 ?_
  refine lv_iload_n hx hb dX9_may_4 rfl (lv_at hl 1 rfl) ?_
  obtain ⟨g1, ht⟩ := it_g ht
  refine va_iald hx hb hE.1 hP 7 0 rfl rfl (q_in g1) dX9_may_5 ?_
  refine lv_if_ne (tgt := 22) hx hb dX9_may_6 (by decide) (fun c2 => ?_) (fun c2 => ?_)
  · have ht := it_n c2 ht
    refine lv_iconst (v := 0) hx hb dX9_may_22 (by decide) ?_
    have ht := Option.some.inj ht
    exact W.zret (v := 0) (ty := .boolean) hx hb hr (by decide +kernel) (fun t e1 hW => ⟨_, rfl, ⟨ht, (by decide +kernel)⟩, e1⟩) (fun q h => absurd h List.not_mem_nil) dX9_may_23
  · have ht := it_p c2 ht
    refine lv_aload_n hx hb dX9_may_9 rfl (lv_at hl 0 rfl) ?_
    refine va_get (D := D) (ci := 9) (v := .ref (d0 9)) (C := RX9) (T := TX9) (N := 37) hx hb hts hi9 hown hE.1 hP 0 rfl rfl 8 (by decide) hw1 (fun _ h9 => h9) rfl dX9_may_10 ?_
    refine lv_iload_n hx hb dX9_may_13 rfl (lv_at hl 1 rfl) ?_
    refine va_iald hx hb hE.1 hP 9 0 rfl rfl (q_in g1) dX9_may_14 ?_
    refine lv_if_ne (tgt := 22) hx hb dX9_may_15 (by decide) (fun c3 => ?_) (fun c3 => ?_)
    · have ht := it_n c3 ht
      refine lv_iconst (v := 0) hx hb dX9_may_22 (by decide) ?_
      have ht := Option.some.inj ht
      exact W.zret (v := 0) (ty := .boolean) hx hb hr (by decide +kernel) (fun t e1 hW => ⟨_, rfl, ⟨ht, (by decide +kernel)⟩, e1⟩) (fun q h => absurd h List.not_mem_nil) dX9_may_23
    · have ht := it_p c3 ht
      refine lv_iconst (v := 1) hx hb dX9_may_18 (by decide) ?_
      refine lv_goto (tgt := 23) hx hb dX9_may_19 (by decide) ?_
      have ht := Option.some.inj ht
      exact W.zret (v := 1) (ty := .boolean) hx hb hr (by decide +kernel) (fun t e1 hW => ⟨_, rfl, ⟨ht, (by decide +kernel)⟩, e1⟩) (fun q h => absurd h List.not_mem_nil) dX9_may_23
abbrev rmX9_whyNoStep : Room := { frames := 2, cells := 0, slots := 0, locals := 45 }
set_option maxHeartbeats 4000000 in
set_option maxRecDepth 100000 in
theorem kX9_whyNoStep (l : Launch) (D : va_G) (cI cZ cO : ClassId) (d0 : Nat → Nat) (S0 : St) (p0 : Int32) (p1 : Int32) (tg : Int32) (ht : xX9_whyNoStep S0 p0 p1 = some tg) : Met l yX9_whyNoStep wsX9_whyNoStep rmX9_whyNoStep (q_PR D cI cZ cO [.ref (d0 0), .int p0, .int p1] (wg9 cI cZ d0 S0)) (vp_Si (fun x => x = tg ∧ True)) 0 0 (fun _ => False) := by
  refine Met.ofW (cc := cX9_whyNoStep) (maxL := 3) (ret := (some .int)) (by decide) rfl ?_
  intro p e s m args below meth c s₁ B hml hv
  obtain ⟨rfl, hE, hP⟩ := hv
  have hx := B.exec
  have hb := B.bytes
  have hr := B.returns
  have hts := atoms_spec (ws := wsX9_whyNoStep) B.pre
  have hown : s.vm.findClass RX9 = some m.cls := findClass_of_methodNamed B.named
  have hlocks := B.notSynchronized
  have hl := lv_entry ([.ref (d0 0), .int p0, .int p1]) (n := 3) (Nat.le_of_ble_eq_true rfl)
  rw [lg_entry_eq]
  generalize (lg_sl ([.ref (d0 0), .int p0, .int p1]) ++ List.replicate (3 - (lg_sl ([.ref (d0 0), .int p0, .int p1])).length) Slot.unset).toArray = ls at hl ⊢
  have hl : lv_has ls 3 [(0, .ref (d0 0)), (1, .int p0), (2, .int p1)] := hl
  have ht := (xX9_whyNoStep_s S0 p0 p1).symm.trans ht
  refine lv_aload_n hx hb dX9_whyNoStep_0 rfl (lv_at hl 0 rfl) ?_
  refine lv_iload_n hx hb dX9_whyNoStep_1 rfl (lv_at hl 1 rfl) ?_
  obtain ⟨q1, hq1, ht⟩ := it_b ht
  refine q_ri (va_runV (As := [.int p0]) (rest := []) ⟨hx, hb, hml, hown, hts⟩ (kX9_may l D cI cZ cO d0 S0 p0 q1 hq1) (cwV 1 hts gX9_whyNoStep_X9_may rfl rfl rfl (by decide +kernel) ⟨Nat.le_of_ble_eq_true rfl, Nat.le_of_ble_eq_true rfl⟩) (q_rV (As := [.int p0]) hE hP (q0 := 0) (ci := 9) rfl rfl) rfl rfl hl.1 rfl (lv_room (Nat.le_of_ble_eq_true rfl)) dX9_whyNoStep_2 ⟨Nat.le_of_ble_eq_true rfl, Nat.le_of_ble_eq_true rfl⟩) (fun b2 => ?_)
  refine lv_if_ne (tgt := 12) hx hb dX9_whyNoStep_5 (by decide) (fun c3 => ?_) (fun c3 => ?_)
  · have ht := it_n c3 ht
    refine lv_iload_n hx hb dX9_whyNoStep_12 rfl (lv_at hl 2 rfl) ?_
    refine q_ri (va_runS (As := [.int p1]) (rest := []) ⟨hx, hb, hml, hown, hts⟩ (kX9_isCell l D cI cZ cO p1) (va_cwS 1 hts gX9_whyNoStep_X9_isCell rfl rfl rfl (by decide +kernel) ⟨Nat.le_of_ble_eq_true rfl, Nat.le_of_ble_eq_true rfl⟩) (q_rS hE q_nil) rfl rfl hl.1 rfl (lv_room (Nat.le_of_ble_eq_true rfl)) dX9_whyNoStep_13 ⟨Nat.le_of_ble_eq_true rfl, Nat.le_of_ble_eq_true rfl⟩) (fun b4 => ?_)
    refine lv_if_eq (tgt := 23) hx hb dX9_whyNoStep_16 (by decide) (fun c5 => ?_) (fun c5 => ?_)
    · have ht := it_p c5 ht
      refine lv_bipush (v := 6) hx hb dX9_whyNoStep_23 (by decide) ?_
      have ht := Option.some.inj ht
      exact W.iret (v := 6) hx hb hr (fun t e1 hW => ⟨_, rfl, ⟨ht, trivial⟩, e1⟩) (fun q h => absurd h List.not_mem_nil) dX9_whyNoStep_25
    · have ht := it_n c5 ht
      refine lv_iconst (v := 0) hx hb dX9_whyNoStep_19 (by decide) ?_
      refine lv_goto (tgt := 25) hx hb dX9_whyNoStep_20 (by decide) ?_
      have ht := Option.some.inj ht
      exact W.iret (v := 0) hx hb hr (fun t e1 hW => ⟨_, rfl, ⟨ht, trivial⟩, e1⟩) (fun q h => absurd h List.not_mem_nil) dX9_whyNoStep_25
  · have ht := it_p c3 ht
    refine lv_iconst (v := 5) hx hb dX9_whyNoStep_8 (by decide) ?_
    refine lv_goto (tgt := 25) hx hb dX9_whyNoStep_9 (by decide) ?_
    have ht := Option.some.inj ht
    exact W.iret (v := 5) hx hb hr (fun t e1 hW => ⟨_, rfl, ⟨ht, trivial⟩, e1⟩) (fun q h => absurd h List.not_mem_nil) dX9_whyNoStep_25
abbrev rmX9_whyNot : Room := { frames := 3, cells := 0, slots := 0, locals := 67 }
set_option maxHeartbeats 4000000 in
set_option maxRecDepth 100000 in
theorem kX9_whyNot (l : Launch) (D : va_G) (cI cZ cO : ClassId) (d0 : Nat → Nat) (S0 : St) (p0 : Int32) (p1 : Int32) (p2 : Int32) (tg : Int32) (ht : xX9_whyNot S0 p0 p1 p2 = some tg) : Met l yX9_whyNot wsX9_whyNot rmX9_whyNot (q_PR D cI cZ cO [.ref (d0 0), .int p0, .int p1, .int p2] (wg9 cI cZ d0 S0)) (vp_Si (fun x => x = tg ∧ True)) 0 0 (fun _ => False) := by
  refine Met.ofW (cc := cX9_whyNot) (maxL := 4) (ret := (some .int)) (by decide) rfl ?_
  intro p e s m args below meth c s₁ B hml hv
  obtain ⟨rfl, hE, hP⟩ := hv
  have hx := B.exec
  have hb := B.bytes
  have hr := B.returns
  have hts := atoms_spec (ws := wsX9_whyNot) B.pre
  have hown : s.vm.findClass RX9 = some m.cls := findClass_of_methodNamed B.named
  have hlocks := B.notSynchronized
  have hi9 : ∀ w ∈ u_ws RX9 TX9 37, w ∈ wsX9_whyNot := by decide +kernel
  have hw0 := hts (.fieldLink RX9 7 "HailNamesModel" "counts" "[I") (by decide +kernel)
  have hw1 := hts (.fieldLink RX9 16 "HailNamesModel" "lies" "[I") (by decide +kernel)
  have hw2 := hts (.fieldLink RX9 25 "HailNamesModel" "stands" "[I") (by decide +kernel)
  have hw3 := hts (.fieldLink RX9 156 "HailNamesModel" "seconds" "I") (by decide +kernel)
  have hl := lv_entry ([.ref (d0 0), .int p0, .int p1, .int p2]) (n := 4) (Nat.le_of_ble_eq_true rfl)
  rw [lg_entry_eq]
  generalize (lg_sl ([.ref (d0 0), .int p0, .int p1, .int p2]) ++ List.replicate (4 - (lg_sl ([.ref (d0 0), .int p0, .int p1, .int p2])).length) Slot.unset).toArray = ls at hl ⊢
  have hl : lv_has ls 4 [(0, .ref (d0 0)), (1, .int p0), (2, .int p1), (3, .int p2)] := hl
  have ht := (xX9_whyNot_s S0 p0 p1 p2).symm.trans ht
  refine lv_iload_n hx hb dX9_whyNot_0 rfl (lv_at hl 1 rfl) ?_
  by_cases c1 : p0 = 0
  · have ht := it_p c1 ht
    refine lv_tableIn (tgt := 36) hx hb dX9_whyNot_1 (by rw [c1]; decide) (by rw [c1]; decide) (by rw [c1]; rfl) (by decide) ?_
    refine lv_iload_n hx hb dX9_whyNot_36 rfl (lv_at hl 2 rfl) ?_
    refine lv_iload_n hx hb dX9_whyNot_37 rfl (lv_at hl 3 rfl) ?_
    refine lv_icmp_ne (tgt := 45) hx hb dX9_whyNot_38 (by decide) (fun c2 => ?_) (fun c2 => ?_)
    · have ht := it_n c2 ht
      refine lv_aload_n hx hb dX9_whyNot_45 rfl (lv_at hl 0 rfl) ?_
      refine va_get (D := D) (ci := 9) (v := .ref (d0 1)) (C := RX9) (T := TX9) (N := 37) hx hb hts hi9 hown hE.1 hP 0 rfl rfl 0 (by decide) hw0 (fun _ h9 => h9) rfl dX9_whyNot_46 ?_
      refine lv_iload_n hx hb dX9_whyNot_49 rfl (lv_at hl 3 rfl) ?_
      obtain ⟨g3, ht⟩ := it_g ht
      refine va_iald hx hb hE.1 hP 1 0 rfl rfl (q_in g3) dX9_whyNot_50 ?_
      refine lv_bipush (v := 99) hx hb dX9_whyNot_51 (by decide) ?_
      refine lv_icmp_ne (tgt := 60) hx hb dX9_whyNot_53 (by decide) (fun c4 => ?_) (fun c4 => ?_)
      · have ht := it_n c4 ht
        refine lv_iconst (v := 0) hx hb dX9_whyNot_60 (by decide) ?_
        have ht := Option.some.inj ht
        exact W.iret (v := 0) hx hb hr (fun t e1 hW => ⟨_, rfl, ⟨ht, trivial⟩, e1⟩) (fun q h => absurd h List.not_mem_nil) dX9_whyNot_61
      · have ht := it_p c4 ht
        refine lv_iconst (v := 2) hx hb dX9_whyNot_56 (by decide) ?_
        refine lv_goto (tgt := 61) hx hb dX9_whyNot_57 (by decide) ?_
        have ht := Option.some.inj ht
        exact W.iret (v := 2) hx hb hr (fun t e1 hW => ⟨_, rfl, ⟨ht, trivial⟩, e1⟩) (fun q h => absurd h List.not_mem_nil) dX9_whyNot_61
    · have ht := it_p c2 ht
      refine lv_iconst (v := 1) hx hb dX9_whyNot_41 (by decide) ?_
      refine lv_goto (tgt := 61) hx hb dX9_whyNot_42 (by decide) ?_
      have ht := Option.some.inj ht
      exact W.iret (v := 1) hx hb hr (fun t e1 hW => ⟨_, rfl, ⟨ht, trivial⟩, e1⟩) (fun q h => absurd h List.not_mem_nil) dX9_whyNot_61
  have ht := it_n c1 ht
  by_cases c5 : p0 = 1
  · have ht := it_p c5 ht
    refine lv_tableIn (tgt := 62) hx hb dX9_whyNot_1 (by rw [c5]; decide) (by rw [c5]; decide) (by rw [c5]; rfl) (by decide) ?_
    refine lv_aload_n hx hb dX9_whyNot_62 rfl (lv_at hl 0 rfl) ?_
    refine va_get (D := D) (ci := 9) (v := .ref (d0 1)) (C := RX9) (T := TX9) (N := 37) hx hb hts hi9 hown hE.1 hP 0 rfl rfl 0 (by decide) hw0 (fun _ h9 => h9) rfl dX9_whyNot_63 ?_
    refine lv_iload_n hx hb dX9_whyNot_66 rfl (lv_at hl 2 rfl) ?_
    obtain ⟨g6, ht⟩ := it_g ht
    refine va_iald hx hb hE.1 hP 1 0 rfl rfl (q_in g6) dX9_whyNot_67 ?_
    refine lv_if_ne (tgt := 75) hx hb dX9_whyNot_68 (by decide) (fun c7 => ?_) (fun c7 => ?_)
    · have ht := it_n c7 ht
      refine lv_aload_n hx hb dX9_whyNot_75 rfl (lv_at hl 0 rfl) ?_
      refine va_get (D := D) (ci := 9) (v := .ref (d0 3)) (C := RX9) (T := TX9) (N := 37) hx hb hts hi9 hown hE.1 hP 0 rfl rfl 2 (by decide) hw1 (fun _ h9 => h9) rfl dX9_whyNot_76 ?_
      refine lv_iload_n hx hb dX9_whyNot_79 rfl (lv_at hl 2 rfl) ?_
      refine va_iald hx hb hE.1 hP 3 0 rfl rfl (q_in g6) dX9_whyNot_80 ?_
      refine lv_if_lt (tgt := 88) hx hb dX9_whyNot_81 (by decide) (fun c8 => ?_) (fun c8 => ?_)
      · have ht := it_p c8 ht
        refine lv_iconst (v := 0) hx hb dX9_whyNot_88 (by decide) ?_
        have ht := Option.some.inj ht
        exact W.iret (v := 0) hx hb hr (fun t e1 hW => ⟨_, rfl, ⟨ht, trivial⟩, e1⟩) (fun q h => absurd h List.not_mem_nil) dX9_whyNot_89
      · have ht := it_n c8 ht
        refine lv_iconst (v := 4) hx hb dX9_whyNot_84 (by decide) ?_
        refine lv_goto (tgt := 89) hx hb dX9_whyNot_85 (by decide) ?_
        have ht := Option.some.inj ht
        exact W.iret (v := 4) hx hb hr (fun t e1 hW => ⟨_, rfl, ⟨ht, trivial⟩, e1⟩) (fun q h => absurd h List.not_mem_nil) dX9_whyNot_89
    · have ht := it_p c7 ht
      refine lv_iconst (v := 3) hx hb dX9_whyNot_71 (by decide) ?_
      refine lv_goto (tgt := 89) hx hb dX9_whyNot_72 (by decide) ?_
      have ht := Option.some.inj ht
      exact W.iret (v := 3) hx hb hr (fun t e1 hW => ⟨_, rfl, ⟨ht, trivial⟩, e1⟩) (fun q h => absurd h List.not_mem_nil) dX9_whyNot_89
  have ht := it_n c5 ht
  by_cases c9 : p0 = 2
  · have ht := it_p c9 ht
    refine lv_tableIn (tgt := 90) hx hb dX9_whyNot_1 (by rw [c9]; decide) (by rw [c9]; decide) (by rw [c9]; rfl) (by decide) ?_
    refine lv_aload_n hx hb dX9_whyNot_90 rfl (lv_at hl 0 rfl) ?_
    refine lv_iload_n hx hb dX9_whyNot_91 rfl (lv_at hl 2 rfl) ?_
    refine lv_aload_n hx hb dX9_whyNot_92 rfl (lv_at hl 0 rfl) ?_
    refine va_get (D := D) (ci := 9) (v := .ref (d0 6)) (C := RX9) (T := TX9) (N := 37) hx hb hts hi9 hown hE.1 hP 0 rfl rfl 5 (by decide) hw2 (fun _ h9 => h9) rfl dX9_whyNot_93 ?_
    refine lv_iload_n hx hb dX9_whyNot_96 rfl (lv_at hl 2 rfl) ?_
    obtain ⟨g10, ht⟩ := it_g ht
    refine va_iald hx hb hE.1 hP 6 0 rfl rfl (q_in g10) dX9_whyNot_97 ?_
    refine lv_iconst (v := 1) hx hb dX9_whyNot_98 (by decide) ?_
    refine lv_iadd hx hb dX9_whyNot_99 ?_
    obtain ⟨q11, hq11, ht⟩ := it_b ht
    refine q_ri (va_runV (As := [.int p1, .int ((S0 5 p1.toNatClampNeg) + 1)]) (rest := []) ⟨hx, hb, hml, hown, hts⟩ (kX9_whyNoStep l D cI cZ cO d0 S0 p1 ((S0 5 p1.toNatClampNeg) + 1) q11 hq11) (cwV 2 hts gX9_whyNot_X9_whyNoStep rfl rfl rfl (by decide +kernel) ⟨Nat.le_of_ble_eq_true rfl, Nat.le_of_ble_eq_true rfl⟩) (q_rV (As := [.int p1, .int ((S0 5 p1.toNatClampNeg) + 1)]) hE hP (q0 := 0) (ci := 9) rfl rfl) rfl rfl hl.1 rfl (lv_room (Nat.le_of_ble_eq_true rfl)) dX9_whyNot_100 ⟨Nat.le_of_ble_eq_true rfl, Nat.le_of_ble_eq_true rfl⟩) (fun b12 => ?_)
    have ht := Option.some.inj ht
    exact W.iret (v := q11) hx hb hr (fun t e1 hW => ⟨_, rfl, ⟨ht, trivial⟩, e1⟩) (fun q h => absurd h List.not_mem_nil) dX9_whyNot_103
  have ht := it_n c9 ht
  by_cases c13 : p0 = 3
  · have ht := it_p c13 ht
    refine lv_tableIn (tgt := 104) hx hb dX9_whyNot_1 (by rw [c13]; decide) (by rw [c13]; decide) (by rw [c13]; rfl) (by decide) ?_
    refine lv_aload_n hx hb dX9_whyNot_104 rfl (lv_at hl 0 rfl) ?_
    refine lv_iload_n hx hb dX9_whyNot_105 rfl (lv_at hl 2 rfl) ?_
    refine lv_aload_n hx hb dX9_whyNot_106 rfl (lv_at hl 0 rfl) ?_
    refine va_get (D := D) (ci := 9) (v := .ref (d0 6)) (C := RX9) (T := TX9) (N := 37) hx hb hts hi9 hown hE.1 hP 0 rfl rfl 5 (by decide) hw2 (fun _ h9 => h9) rfl dX9_whyNot_107 ?_
    refine lv_iload_n hx hb dX9_whyNot_110 rfl (lv_at hl 2 rfl) ?_
    obtain ⟨g14, ht⟩ := it_g ht
    refine va_iald hx hb hE.1 hP 6 0 rfl rfl (q_in g14) dX9_whyNot_111 ?_
    refine lv_iconst (v := 1) hx hb dX9_whyNot_112 (by decide) ?_
    refine lv_isub hx hb dX9_whyNot_113 ?_
    obtain ⟨q15, hq15, ht⟩ := it_b ht
    refine q_ri (va_runV (As := [.int p1, .int ((S0 5 p1.toNatClampNeg) - 1)]) (rest := []) ⟨hx, hb, hml, hown, hts⟩ (kX9_whyNoStep l D cI cZ cO d0 S0 p1 ((S0 5 p1.toNatClampNeg) - 1) q15 hq15) (cwV 2 hts gX9_whyNot_X9_whyNoStep rfl rfl rfl (by decide +kernel) ⟨Nat.le_of_ble_eq_true rfl, Nat.le_of_ble_eq_true rfl⟩) (q_rV (As := [.int p1, .int ((S0 5 p1.toNatClampNeg) - 1)]) hE hP (q0 := 0) (ci := 9) rfl rfl) rfl rfl hl.1 rfl (lv_room (Nat.le_of_ble_eq_true rfl)) dX9_whyNot_114 ⟨Nat.le_of_ble_eq_true rfl, Nat.le_of_ble_eq_true rfl⟩) (fun b16 => ?_)
    have ht := Option.some.inj ht
    exact W.iret (v := q15) hx hb hr (fun t e1 hW => ⟨_, rfl, ⟨ht, trivial⟩, e1⟩) (fun q h => absurd h List.not_mem_nil) dX9_whyNot_117
  have ht := it_n c13 ht
  by_cases c17 : p0 = 4
  · have ht := it_p c17 ht
    refine lv_tableIn (tgt := 118) hx hb dX9_whyNot_1 (by rw [c17]; decide) (by rw [c17]; decide) (by rw [c17]; rfl) (by decide) ?_
    refine lv_aload_n hx hb dX9_whyNot_118 rfl (lv_at hl 0 rfl) ?_
    refine lv_iload_n hx hb dX9_whyNot_119 rfl (lv_at hl 2 rfl) ?_
    obtain ⟨q18, hq18, ht⟩ := it_b ht
    refine q_ri (va_runV (As := [.int p1]) (rest := []) ⟨hx, hb, hml, hown, hts⟩ (kX9_may l D cI cZ cO d0 S0 p1 q18 hq18) (cwV 1 hts gX9_whyNot_X9_may rfl rfl rfl (by decide +kernel) ⟨Nat.le_of_ble_eq_true rfl, Nat.le_of_ble_eq_true rfl⟩) (q_rV (As := [.int p1]) hE hP (q0 := 0) (ci := 9) rfl rfl) rfl rfl hl.1 rfl (lv_room (Nat.le_of_ble_eq_true rfl)) dX9_whyNot_120 ⟨Nat.le_of_ble_eq_true rfl, Nat.le_of_ble_eq_true rfl⟩) (fun b19 => ?_)
    refine lv_if_ne (tgt := 130) hx hb dX9_whyNot_123 (by decide) (fun c20 => ?_) (fun c20 => ?_)
    · have ht := it_n c20 ht
      refine lv_aload_n hx hb dX9_whyNot_130 rfl (lv_at hl 0 rfl) ?_
      refine va_get (D := D) (ci := 9) (v := .ref (d0 3)) (C := RX9) (T := TX9) (N := 37) hx hb hts hi9 hown hE.1 hP 0 rfl rfl 2 (by decide) hw1 (fun _ h9 => h9) rfl dX9_whyNot_131 ?_
      refine lv_iload_n hx hb dX9_whyNot_134 rfl (lv_at hl 3 rfl) ?_
      obtain ⟨g21, ht⟩ := it_g ht
      refine va_iald hx hb hE.1 hP 3 0 rfl rfl (q_in g21) dX9_whyNot_135 ?_
      refine lv_aload_n hx hb dX9_whyNot_136 rfl (lv_at hl 0 rfl) ?_
      refine va_get (D := D) (ci := 9) (v := .ref (d0 6)) (C := RX9) (T := TX9) (N := 37) hx hb hts hi9 hown hE.1 hP 0 rfl rfl 5 (by decide) hw2 (fun _ h9 => h9) rfl dX9_whyNot_137 ?_
      refine lv_iload_n hx hb dX9_whyNot_140 rfl (lv_at hl 2 rfl) ?_
      obtain ⟨g22, ht⟩ := it_g ht
      refine va_iald hx hb hE.1 hP 6 0 rfl rfl (q_in g22) dX9_whyNot_141 ?_
      refine lv_icmp_ne (tgt := 149) hx hb dX9_whyNot_142 (by decide) (fun c23 => ?_) (fun c23 => ?_)
      · have ht := it_n c23 ht
        refine lv_bipush (v := 7) hx hb dX9_whyNot_149 (by decide) ?_
        have ht := Option.some.inj ht
        exact W.iret (v := 7) hx hb hr (fun t e1 hW => ⟨_, rfl, ⟨ht, trivial⟩, e1⟩) (fun q h => absurd h List.not_mem_nil) dX9_whyNot_151
      · have ht := it_p c23 ht
        refine lv_iconst (v := 0) hx hb dX9_whyNot_145 (by decide) ?_
        refine lv_goto (tgt := 151) hx hb dX9_whyNot_146 (by decide) ?_
        have ht := Option.some.inj ht
        exact W.iret (v := 0) hx hb hr (fun t e1 hW => ⟨_, rfl, ⟨ht, trivial⟩, e1⟩) (fun q h => absurd h List.not_mem_nil) dX9_whyNot_151
    · have ht := it_p c20 ht
      refine lv_iconst (v := 5) hx hb dX9_whyNot_126 (by decide) ?_
      refine lv_goto (tgt := 151) hx hb dX9_whyNot_127 (by decide) ?_
      have ht := Option.some.inj ht
      exact W.iret (v := 5) hx hb hr (fun t e1 hW => ⟨_, rfl, ⟨ht, trivial⟩, e1⟩) (fun q h => absurd h List.not_mem_nil) dX9_whyNot_151
  have ht := it_n c17 ht
  refine lv_tableOut (tgt := 152) hx hb dX9_whyNot_1 (by have n0 := lv_neT c1 (show (0 : Int32).toInt = 0 by decide); have n1 := lv_neT c5 (show (1 : Int32).toInt = 1 by decide); have n2 := lv_neT c9 (show (2 : Int32).toInt = 2 by decide); have n3 := lv_neT c13 (show (3 : Int32).toInt = 3 by decide); have n4 := lv_neT c17 (show (4 : Int32).toInt = 4 by decide); omega) (by decide) ?_
  refine lv_aload_n hx hb dX9_whyNot_152 rfl (lv_at hl 0 rfl) ?_
  refine va_get (D := D) (ci := 9) (v := .int (S0 10 0)) (C := RX9) (T := TX9) (N := 37) hx hb hts hi9 hown hE.1 hP 0 rfl rfl 10 (by decide) hw3 (fun _ h9 => h9) rfl dX9_whyNot_153 ?_
  refine lv_bipush (v := 99) hx hb dX9_whyNot_156 (by decide) ?_
  refine lv_icmp_ne (tgt := 166) hx hb dX9_whyNot_158 (by decide) (fun c24 => ?_) (fun c24 => ?_)
  · have ht := it_n c24 ht
    refine lv_iconst (v := 0) hx hb dX9_whyNot_166 (by decide) ?_
    have ht := Option.some.inj ht
    exact W.iret (v := 0) hx hb hr (fun t e1 hW => ⟨_, rfl, ⟨ht, trivial⟩, e1⟩) (fun q h => absurd h List.not_mem_nil) dX9_whyNot_167
  · have ht := it_p c24 ht
    refine lv_bipush (v := 8) hx hb dX9_whyNot_161 (by decide) ?_
    refine lv_goto (tgt := 167) hx hb dX9_whyNot_163 (by decide) ?_
    have ht := Option.some.inj ht
    exact W.iret (v := 8) hx hb hr (fun t e1 hW => ⟨_, rfl, ⟨ht, trivial⟩, e1⟩) (fun q h => absurd h List.not_mem_nil) dX9_whyNot_167
abbrev rmX9_fall : Room := { frames := 1, cells := 0, slots := 0, locals := 24 }
set_option maxHeartbeats 4000000 in
set_option maxRecDepth 100000 in
theorem kX9_fall (l : Launch) (D : va_G) (cI cZ cO : ClassId) (d0 : Nat → Nat) (sz : Nat) (S0 : St) (p0 : Int32) (p1 : Int32) (tg : St) (ht : xX9_fall p0 p1 S0 = some tg) : Met l yX9_fall wsX9_fall rmX9_fall (q_PM D cI cZ cO [.ref (d0 0), .int p0, .int p1] sz (wg9 cI cZ d0 S0)) (va_Qv (fun _ : Unit => True) (fun _ t => va_P D vwCl (wg9 cI cZ d0 tg) t.heap) (va_A (wg9 cI cZ d0 S0) sz)) 0 0 (va_A (wg9 cI cZ d0 S0) sz) := by
  refine Met.ofW (cc := cX9_fall) (maxL := 4) (ret := none) (by decide) rfl ?_
  intro p e s m args below meth c s₁ B hml hv
  obtain ⟨rfl, hsz, hE, hP, hD0⟩ := hv
  have hx := B.exec
  have hb := B.bytes
  have hr := B.returns
  have hts := atoms_spec (ws := wsX9_fall) B.pre
  have hown : s.vm.findClass RX9 = some m.cls := findClass_of_methodNamed B.named
  have hlocks := B.notSynchronized
  have hi9 : ∀ w ∈ u_ws RX9 TX9 37, w ∈ wsX9_fall := by decide +kernel
  have hw0 := hts (.fieldLink RX9 7 "HailNamesModel" "counts" "[I") (by decide +kernel)
  have hw1 := hts (.fieldLink RX9 28 "HailNamesModel" "stun" "[I") (by decide +kernel)
  have hw2 := hts (.fieldLink RX9 25 "HailNamesModel" "stands" "[I") (by decide +kernel)
  have hw3 := hts (.fieldLink RX9 22 "HailNamesModel" "figure" "[I") (by decide +kernel)
  subst hsz
  have hD1 := hD0.self (sz := s.heap.size)
  generalize hAe : va_A (wg9 cI cZ d0 S0) s.heap.size = A at hD1 ⊢
  have hA : ∀ q : Nat, s.heap.size ≤ q → A q := fun q h => by rw [← hAe]; exact Or.inr h
  have hS : va_S A s.heap s.heap [] := va_S.rf
  have hD : ∀ (S0 : St), va_D A (wg9 cI cZ d0 S0) := fun S0 => q_D hD1 rfl
  have hl := lv_entry ([.ref (d0 0), .int p0, .int p1]) (n := 4) (Nat.le_of_ble_eq_true rfl)
  rw [lg_entry_eq]
  generalize (lg_sl ([.ref (d0 0), .int p0, .int p1]) ++ List.replicate (4 - (lg_sl ([.ref (d0 0), .int p0, .int p1])).length) Slot.unset).toArray = ls at hl ⊢
  have hl : lv_has ls 4 [(0, .ref (d0 0)), (1, .int p0), (2, .int p1)] := hl
  have ht := (xX9_fall_s p0 p1 S0).symm.trans ht
  obtain ⟨Q, hQ⟩ : ∃ Q, Q = MQ below (va_Qv (fun _ : Unit => True) (fun _ t => va_P D vwCl (wg9 cI cZ d0 tg) t.heap) A) ([.ref (d0 0), .int p0, .int p1] : List Value).toArray s 0 0 A := ⟨_, rfl⟩
  rw [← hQ]
  have L27 : ∀ (n : Nat) (x3 : Int32) (S0 : St) (H : Heap) (locs : List Loc) (_ : va_P D vwCl (wg9 cI cZ d0 S0) H) (_ : va_S A s.heap H locs) (ls : Array Slot) (_ : lv_has ls 4 [(0, .ref (d0 0)), (1, .int p0), (2, .int p1), (3, .int x3)]) (_ : xX9_fall_h27 p0 p1 n x3 S0 = some tg), W p l e (headSpec wsX9_fall rmX9_fall).room s m ([.ref (d0 0), .int p0, .int p1] : List Value).toArray below meth c H locs 0 0 Q (F0 m 27 ls []) := by
    intro n
    induction n with
    | zero =>
      intro x3 S0 H locs hP hS ls hl ht
      exact it_z ht
    | succ n27 ih27 =>
      intro x3 S0 H locs hP hS ls hl ht
      have ht := (xX9_fall_h27_s p0 p1 n27 x3 S0).symm.trans ht
      refine lv_iload_n hx hb dX9_fall_27 rfl (lv_at hl 3 rfl) ?_
      refine lv_iconst (v := 4) hx hb dX9_fall_28 (by decide) ?_
      refine lv_icmp_ge (tgt := 84) hx hb dX9_fall_29 (by decide) (fun c4 => ?_) (fun c4 => ?_)
      · have ht := it_p c4 ht
        subst hQ
        obtain rfl := Option.some.inj ht
        exact W.vret hx hb hr (fun t e1 hW => ⟨⟨(), rfl, trivial, q_at e1 hP⟩, hS.F e1⟩) hS.2.2 dX9_fall_84
      · have ht := it_n c4 ht
        refine lv_aload_n hx hb dX9_fall_32 rfl (lv_at hl 0 rfl) ?_
        refine va_get (D := D) (ci := 9) (v := .ref (d0 7)) (C := RX9) (T := TX9) (N := 37) hx hb hts hi9 hown hE.1 hP 0 rfl rfl 6 (by decide) hw1 (fun _ h9 => h9) rfl dX9_fall_33 ?_
        refine lv_iload_n hx hb dX9_fall_36 rfl (lv_at hl 3 rfl) ?_
        refine lv_aload_n hx hb dX9_fall_37 rfl (lv_at hl 0 rfl) ?_
        refine va_get (D := D) (ci := 9) (v := .ref (d0 6)) (C := RX9) (T := TX9) (N := 37) hx hb hts hi9 hown hE.1 hP 0 rfl rfl 5 (by decide) hw2 (fun _ h9 => h9) rfl dX9_fall_38 ?_
        refine lv_iload_n hx hb dX9_fall_41 rfl (lv_at hl 3 rfl) ?_
        obtain ⟨g5, ht⟩ := it_g ht
        refine va_iald hx hb hE.1 hP 6 0 rfl rfl (q_in g5) dX9_fall_42 ?_
        refine lv_iload_n hx hb dX9_fall_43 rfl (lv_at hl 2 rfl) ?_
        refine lv_icmp_ne (tgt := 71) hx hb dX9_fall_44 (by decide) (fun c6 => ?_) (fun c6 => ?_)
        · have ht := it_n c6 ht
          refine lv_aload_n hx hb dX9_fall_71 rfl (lv_at hl 0 rfl) ?_
          refine va_get (D := D) (ci := 9) (v := .ref (d0 7)) (C := RX9) (T := TX9) (N := 37) hx hb hts hi9 hown hE.1 hP 0 rfl rfl 6 (by decide) hw1 (fun _ h9 => h9) rfl dX9_fall_72 ?_
          refine lv_iload_n hx hb dX9_fall_75 rfl (lv_at hl 3 rfl) ?_
          refine va_iald hx hb hE.1 hP 7 0 rfl rfl (q_in g5) dX9_fall_76 ?_
          refine va_iast hx hb hE.1 hP (hD _) hS 7 0 rfl rfl (q_in g5) dX9_fall_77 (fun H locs hP _ hS => ?_)
          have hP : va_P D vwCl (wg9 cI cZ d0 (q_su S0 6 x3.toNatClampNeg (S0 6 x3.toNatClampNeg))) H := hP
          obtain ⟨T7, eT7⟩ : ∃ z : St, z = q_su S0 6 x3.toNatClampNeg (S0 6 x3.toNatClampNeg) := ⟨_, rfl⟩
          rw [← eT7] at hP
          have ht := it_l ht eT7
          refine lv_iinc (v := x3 + 1) (lv' := [(3, .int (x3 + 1)), (0, .ref (d0 0)), (1, .int p0), (2, .int p1)]) hx hb dX9_fall_78 hl (k := 3) rfl rfl (by decide) rfl (fun ls hl => ?_)
          refine lv_goto (tgt := 27) hx hb dX9_fall_81 (by decide) ?_
          exact ih27 (x3 + 1) T7 _ _ hP hS ls (lv_sub hl [1, 2, 3, 0] rfl) ht
        · have ht := it_p c6 ht
          refine lv_bipush (v := 9) hx hb dX9_fall_47 (by decide) ?_
          refine lv_aload_n hx hb dX9_fall_49 rfl (lv_at hl 0 rfl) ?_
          refine va_get (D := D) (ci := 9) (v := .ref (d0 7)) (C := RX9) (T := TX9) (N := 37) hx hb hts hi9 hown hE.1 hP 0 rfl rfl 6 (by decide) hw1 (fun _ h9 => h9) rfl dX9_fall_50 ?_
          refine lv_iload_n hx hb dX9_fall_53 rfl (lv_at hl 3 rfl) ?_
          refine va_iald hx hb hE.1 hP 7 0 rfl rfl (q_in g5) dX9_fall_54 ?_
          refine lv_aload_n hx hb dX9_fall_55 rfl (lv_at hl 0 rfl) ?_
          refine va_get (D := D) (ci := 9) (v := .ref (d0 5)) (C := RX9) (T := TX9) (N := 37) hx hb hts hi9 hown hE.1 hP 0 rfl rfl 4 (by decide) hw3 (fun _ h9 => h9) rfl dX9_fall_56 ?_
          refine lv_iload_n hx hb dX9_fall_59 rfl (lv_at hl 1 rfl) ?_
          obtain ⟨g8, ht⟩ := it_g ht
          refine va_iald hx hb hE.1 hP 5 0 rfl rfl (q_in g8) dX9_fall_60 ?_
          refine lv_bipush (v := 10) hx hb dX9_fall_61 (by decide) ?_
          refine lv_idiv hx hb dX9_fall_63 (by decide +kernel) ?_
          refine lv_iadd hx hb dX9_fall_64 ?_
          refine q_ri (va_runS (As := [.int 9, .int ((S0 6 x3.toNatClampNeg) + ((S0 4 p0.toNatClampNeg) / 10))]) (rest := [.int x3, .ref (d0 7)]) ⟨hx, hb, hml, hown, hts⟩ (kX9_less l D cI cZ cO 9 ((S0 6 x3.toNatClampNeg) + ((S0 4 p0.toNatClampNeg) / 10))) (va_cwS 2 hts gX9_fall_X9_less rfl rfl rfl (by decide +kernel) ⟨Nat.le_of_ble_eq_true rfl, Nat.le_of_ble_eq_true rfl⟩) (q_rS hE q_nil) rfl rfl hl.1 rfl (lv_room (Nat.le_of_ble_eq_true rfl)) dX9_fall_65 ⟨Nat.le_of_ble_eq_true rfl, Nat.le_of_ble_eq_true rfl⟩) (fun b9 => ?_)
          refine lv_goto (tgt := 77) hx hb dX9_fall_68 (by decide) ?_
          refine va_iast hx hb hE.1 hP (hD _) hS 7 0 rfl rfl (q_in g5) dX9_fall_77 (fun H locs hP _ hS => ?_)
          have hP : va_P D vwCl (wg9 cI cZ d0 (q_su S0 6 x3.toNatClampNeg (xX9_less 9 ((S0 6 x3.toNatClampNeg) + ((S0 4 p0.toNatClampNeg) / 10))))) H := hP
          obtain ⟨T10, eT10⟩ : ∃ z : St, z = q_su S0 6 x3.toNatClampNeg (xX9_less 9 ((S0 6 x3.toNatClampNeg) + ((S0 4 p0.toNatClampNeg) / 10))) := ⟨_, rfl⟩
          rw [← eT10] at hP
          have ht := it_l ht eT10
          refine lv_iinc (v := x3 + 1) (lv' := [(3, .int (x3 + 1)), (0, .ref (d0 0)), (1, .int p0), (2, .int p1)]) hx hb dX9_fall_78 hl (k := 3) rfl rfl (by decide) rfl (fun ls hl => ?_)
          refine lv_goto (tgt := 27) hx hb dX9_fall_81 (by decide) ?_
          exact ih27 (x3 + 1) T10 _ _ hP hS ls (lv_sub hl [1, 2, 3, 0] rfl) ht
  refine lv_aload_n hx hb dX9_fall_0 rfl (lv_at hl 0 rfl) ?_
  refine lv_iload_n hx hb dX9_fall_1 rfl (lv_at hl 1 rfl) ?_
  refine lv_iload_n hx hb dX9_fall_2 rfl (lv_at hl 2 rfl) ?_
  refine lv_aload_n hx hb dX9_fall_3 rfl (lv_at hl 0 rfl) ?_
  refine va_get (D := D) (ci := 9) (v := .ref (d0 1)) (C := RX9) (T := TX9) (N := 37) hx hb hts hi9 hown hE.1 hP 0 rfl rfl 0 (by decide) hw0 (fun _ h9 => h9) rfl dX9_fall_4 ?_
  refine lv_iload_n hx hb dX9_fall_7 rfl (lv_at hl 1 rfl) ?_
  obtain ⟨g1, ht⟩ := it_g ht
  refine va_iald hx hb hE.1 hP 1 0 rfl rfl (q_in g1) dX9_fall_8 ?_
  refine lv_aload_n hx hb dX9_fall_9 rfl (lv_at hl 0 rfl) ?_
  refine va_get (D := D) (ci := 9) (v := .ref (d0 1)) (C := RX9) (T := TX9) (N := 37) hx hb hts hi9 hown hE.1 hP 0 rfl rfl 0 (by decide) hw0 (fun _ h9 => h9) rfl dX9_fall_10 ?_
  refine lv_iload_n hx hb dX9_fall_13 rfl (lv_at hl 1 rfl) ?_
  refine va_iald hx hb hE.1 hP 1 0 rfl rfl (q_in g1) dX9_fall_14 ?_
  obtain ⟨q2, hq2, ht⟩ := it_b ht
  have hFc := q_freeW (hD S0) hS hA
  refine q_mv (va_runV (As := [.int p0, .int p1, .int (S0 0 p0.toNatClampNeg), .int (S0 0 p0.toNatClampNeg)]) (rest := []) ⟨hx, hb, hml, hown, hts⟩ (kX9_layStone l D cI cZ cO d0 s.heap.size S0 p0 p1 (S0 0 p0.toNatClampNeg) (S0 0 p0.toNatClampNeg) q2 hq2) (cwV 4 hts gX9_fall_X9_layStone rfl rfl rfl (by decide +kernel) ⟨Nat.le_of_ble_eq_true rfl, Nat.le_of_ble_eq_true rfl⟩) (q_mV (As := [.int p0, .int p1, .int (S0 0 p0.toNatClampNeg), .int (S0 0 p0.toNatClampNeg)]) hE hP (hD S0) (q0 := 0) (ci := 9) rfl rfl) rfl rfl hl.1 rfl (lv_room (Nat.le_of_ble_eq_true rfl)) dX9_fall_15 ⟨Nat.le_of_ble_eq_true rfl, Nat.le_of_ble_eq_true rfl⟩) hS hFc (fun H locs hP1 hk hS => ?_)
  have hP : va_P D vwCl (wg9 cI cZ d0 q2) H := hP1
  refine lv_aload_n hx hb dX9_fall_18 rfl (lv_at hl 0 rfl) ?_
  refine va_get (D := D) (ci := 9) (v := .ref (d0 1)) (C := RX9) (T := TX9) (N := 37) hx hb hts hi9 hown hE.1 hP 0 rfl rfl 0 (by decide) hw0 (fun _ h9 => h9) rfl dX9_fall_19 ?_
  refine lv_iload_n hx hb dX9_fall_22 rfl (lv_at hl 1 rfl) ?_
  refine lv_iconst (v := 0) hx hb dX9_fall_23 (by decide) ?_
  refine va_iast hx hb hE.1 hP (hD _) hS 1 0 rfl rfl (q_in g1) dX9_fall_24 (fun H locs hP _ hS => ?_)
  have hP : va_P D vwCl (wg9 cI cZ d0 (q_su q2 0 p0.toNatClampNeg 0)) H := hP
  obtain ⟨T3, eT3⟩ : ∃ z : St, z = q_su q2 0 p0.toNatClampNeg 0 := ⟨_, rfl⟩
  rw [← eT3] at hP
  have ht := it_l ht eT3
  refine lv_iconst (v := 0) hx hb dX9_fall_25 (by decide) ?_
  refine lv_istore_n (lv' := [(3, .int 0), (0, .ref (d0 0)), (1, .int p0), (2, .int p1)]) hx hb dX9_fall_26 rfl hl (by decide) rfl (fun ls hl => ?_)
  exact L27 5000 0 T3 _ _ hP hS ls (lv_sub hl [1, 2, 3, 0] rfl) ht
abbrev rmX9_walk : Room := { frames := 0, cells := 0, slots := 0, locals := 0 }
set_option maxHeartbeats 4000000 in
set_option maxRecDepth 100000 in
theorem kX9_walk (l : Launch) (D : va_G) (cI cZ cO : ClassId) (d0 : Nat → Nat) (sz : Nat) (S0 : St) (p0 : Int32) (p1 : Int32) (tg : St) (ht : xX9_walk p0 p1 S0 = some tg) : Met l yX9_walk wsX9_walk rmX9_walk (q_PM D cI cZ cO [.ref (d0 0), .int p0, .int p1] sz (wg9 cI cZ d0 S0)) (va_Qv (fun _ : Unit => True) (fun _ t => va_P D vwCl (wg9 cI cZ d0 tg) t.heap) (va_A (wg9 cI cZ d0 S0) sz)) 0 0 (va_A (wg9 cI cZ d0 S0) sz) := by
  refine Met.ofW (cc := cX9_walk) (maxL := 3) (ret := none) (by decide) rfl ?_
  intro p e s m args below meth c s₁ B hml hv
  obtain ⟨rfl, hsz, hE, hP, hD0⟩ := hv
  have hx := B.exec
  have hb := B.bytes
  have hr := B.returns
  have hts := atoms_spec (ws := wsX9_walk) B.pre
  have hown : s.vm.findClass RX9 = some m.cls := findClass_of_methodNamed B.named
  have hlocks := B.notSynchronized
  have hi9 : ∀ w ∈ u_ws RX9 TX9 37, w ∈ wsX9_walk := by decide +kernel
  have hw0 := hts (.fieldLink RX9 25 "HailNamesModel" "stands" "[I") (by decide +kernel)
  have hw1 := hts (.fieldLink RX9 34 "HailNamesModel" "did" "[I") (by decide +kernel)
  subst hsz
  have hD1 := hD0.self (sz := s.heap.size)
  generalize hAe : va_A (wg9 cI cZ d0 S0) s.heap.size = A at hD1 ⊢
  have hA : ∀ q : Nat, s.heap.size ≤ q → A q := fun q h => by rw [← hAe]; exact Or.inr h
  have hS : va_S A s.heap s.heap [] := va_S.rf
  have hD : ∀ (S0 : St), va_D A (wg9 cI cZ d0 S0) := fun S0 => q_D hD1 rfl
  have hl := lv_entry ([.ref (d0 0), .int p0, .int p1]) (n := 3) (Nat.le_of_ble_eq_true rfl)
  rw [lg_entry_eq]
  generalize (lg_sl ([.ref (d0 0), .int p0, .int p1]) ++ List.replicate (3 - (lg_sl ([.ref (d0 0), .int p0, .int p1])).length) Slot.unset).toArray = ls at hl ⊢
  have hl : lv_has ls 3 [(0, .ref (d0 0)), (1, .int p0), (2, .int p1)] := hl
  have ht := (xX9_walk_s p0 p1 S0).symm.trans ht
  refine lv_aload_n hx hb dX9_walk_0 rfl (lv_at hl 0 rfl) ?_
  refine va_get (D := D) (ci := 9) (v := .ref (d0 6)) (C := RX9) (T := TX9) (N := 37) hx hb hts hi9 hown hE.1 hP 0 rfl rfl 5 (by decide) hw0 (fun _ h9 => h9) rfl dX9_walk_1 ?_
  refine lv_iload_n hx hb dX9_walk_4 rfl (lv_at hl 1 rfl) ?_
  refine lv_dup2_11 hx hb dX9_walk_5 rfl rfl ?_
  obtain ⟨g1, ht⟩ := it_g ht
  refine va_iald hx hb hE.1 hP 6 0 rfl rfl (q_in g1) dX9_walk_6 ?_
  refine lv_iload_n hx hb dX9_walk_7 rfl (lv_at hl 2 rfl) ?_
  refine lv_iadd hx hb dX9_walk_8 ?_
  refine va_iast hx hb hE.1 hP (hD _) hS 6 0 rfl rfl (q_in g1) dX9_walk_9 (fun H locs hP _ hS => ?_)
  have hP : va_P D vwCl (wg9 cI cZ d0 (q_su S0 5 p0.toNatClampNeg ((S0 5 p0.toNatClampNeg) + p1))) H := hP
  obtain ⟨T2, eT2⟩ : ∃ z : St, z = q_su S0 5 p0.toNatClampNeg ((S0 5 p0.toNatClampNeg) + p1) := ⟨_, rfl⟩
  rw [← eT2] at hP
  have ht := it_l ht eT2
  refine lv_aload_n hx hb dX9_walk_10 rfl (lv_at hl 0 rfl) ?_
  refine va_get (D := D) (ci := 9) (v := .ref (d0 9)) (C := RX9) (T := TX9) (N := 37) hx hb hts hi9 hown hE.1 hP 0 rfl rfl 8 (by decide) hw1 (fun _ h9 => h9) rfl dX9_walk_11 ?_
  refine lv_iload_n hx hb dX9_walk_14 rfl (lv_at hl 1 rfl) ?_
  refine lv_iconst (v := 1) hx hb dX9_walk_15 (by decide) ?_
  refine va_iast hx hb hE.1 hP (hD _) hS 9 0 rfl rfl (q_in g1) dX9_walk_16 (fun H locs hP _ hS => ?_)
  have hP : va_P D vwCl (wg9 cI cZ d0 (q_su T2 8 p0.toNatClampNeg 1)) H := hP
  obtain ⟨T3, eT3⟩ : ∃ z : St, z = q_su T2 8 p0.toNatClampNeg 1 := ⟨_, rfl⟩
  rw [← eT3] at hP
  have ht := it_l ht eT3
  obtain rfl := Option.some.inj ht
  exact W.vret hx hb hr (fun t e1 hW => ⟨⟨(), rfl, trivial, q_at e1 hP⟩, hS.F e1⟩) hS.2.2 dX9_walk_17
abbrev rmX9_readOne : Room := { frames := 1, cells := 0, slots := 0, locals := 24 }
set_option maxHeartbeats 4000000 in
set_option maxRecDepth 100000 in
theorem kX9_readOne (l : Launch) (D : va_G) (cI cZ cO : ClassId) (d0 : Nat → Nat) (sz : Nat) (S0 : St) (p0 : Int32) (p1 : Int32) (tg : St) (ht : xX9_readOne p0 p1 S0 = some tg) : Met l yX9_readOne wsX9_readOne rmX9_readOne (q_PM D cI cZ cO [.ref (d0 0), .int p0, .int p1] sz (wg9 cI cZ d0 S0)) (va_Qv (fun _ : Unit => True) (fun _ t => va_P D vwCl (wg9 cI cZ d0 tg) t.heap) (va_A (wg9 cI cZ d0 S0) sz)) 0 0 (va_A (wg9 cI cZ d0 S0) sz) := by
  refine Met.ofW (cc := cX9_readOne) (maxL := 3) (ret := none) (by decide) rfl ?_
  intro p e s m args below meth c s₁ B hml hv
  obtain ⟨rfl, hsz, hE, hP, hD0⟩ := hv
  have hx := B.exec
  have hb := B.bytes
  have hr := B.returns
  have hts := atoms_spec (ws := wsX9_readOne) B.pre
  have hown : s.vm.findClass RX9 = some m.cls := findClass_of_methodNamed B.named
  have hlocks := B.notSynchronized
  have hi9 : ∀ w ∈ u_ws RX9 TX9 37, w ∈ wsX9_readOne := by decide +kernel
  have hw0 := hts (.fieldLink RX9 13 "HailNamesModel" "noted" "[I") (by decide +kernel)
  have hw1 := hts (.fieldLink RX9 22 "HailNamesModel" "figure" "[I") (by decide +kernel)
  have hw2 := hts (.fieldLink RX9 31 "HailNamesModel" "hasRead" "[I") (by decide +kernel)
  have hw3 := hts (.fieldLink RX9 34 "HailNamesModel" "did" "[I") (by decide +kernel)
  subst hsz
  have hD1 := hD0.self (sz := s.heap.size)
  generalize hAe : va_A (wg9 cI cZ d0 S0) s.heap.size = A at hD1 ⊢
  have hA : ∀ q : Nat, s.heap.size ≤ q → A q := fun q h => by rw [← hAe]; exact Or.inr h
  have hS : va_S A s.heap s.heap [] := va_S.rf
  have hD : ∀ (S0 : St), va_D A (wg9 cI cZ d0 S0) := fun S0 => q_D hD1 rfl
  have hl := lv_entry ([.ref (d0 0), .int p0, .int p1]) (n := 3) (Nat.le_of_ble_eq_true rfl)
  rw [lg_entry_eq]
  generalize (lg_sl ([.ref (d0 0), .int p0, .int p1]) ++ List.replicate (3 - (lg_sl ([.ref (d0 0), .int p0, .int p1])).length) Slot.unset).toArray = ls at hl ⊢
  have hl : lv_has ls 3 [(0, .ref (d0 0)), (1, .int p0), (2, .int p1)] := hl
  have ht := (xX9_readOne_s p0 p1 S0).symm.trans ht
  refine lv_aload_n hx hb dX9_readOne_0 rfl (lv_at hl 0 rfl) ?_
  refine va_get (D := D) (ci := 9) (v := .ref (d0 2)) (C := RX9) (T := TX9) (N := 37) hx hb hts hi9 hown hE.1 hP 0 rfl rfl 1 (by decide) hw0 (fun _ h9 => h9) rfl dX9_readOne_1 ?_
  refine lv_iload_n hx hb dX9_readOne_4 rfl (lv_at hl 2 rfl) ?_
  refine lv_aload_n hx hb dX9_readOne_5 rfl (lv_at hl 0 rfl) ?_
  refine va_get (D := D) (ci := 9) (v := .ref (d0 5)) (C := RX9) (T := TX9) (N := 37) hx hb hts hi9 hown hE.1 hP 0 rfl rfl 4 (by decide) hw1 (fun _ h9 => h9) rfl dX9_readOne_6 ?_
  refine lv_iload_n hx hb dX9_readOne_9 rfl (lv_at hl 2 rfl) ?_
  obtain ⟨g1, ht⟩ := it_g ht
  refine va_iald hx hb hE.1 hP 5 0 rfl rfl (q_in g1) dX9_readOne_10 ?_
  refine va_iast hx hb hE.1 hP (hD _) hS 2 0 rfl rfl (q_in g1) dX9_readOne_11 (fun H locs hP _ hS => ?_)
  have hP : va_P D vwCl (wg9 cI cZ d0 (q_su S0 1 p1.toNatClampNeg (S0 4 p1.toNatClampNeg))) H := hP
  obtain ⟨T2, eT2⟩ : ∃ z : St, z = q_su S0 1 p1.toNatClampNeg (S0 4 p1.toNatClampNeg) := ⟨_, rfl⟩
  rw [← eT2] at hP
  have ht := it_l ht eT2
  refine lv_aload_n hx hb dX9_readOne_12 rfl (lv_at hl 0 rfl) ?_
  refine lv_iload_n hx hb dX9_readOne_13 rfl (lv_at hl 2 rfl) ?_
  refine lv_bipush (v := (-6)) hx hb dX9_readOne_14 (by decide) ?_
  refine lv_iconst (v := 0) hx hb dX9_readOne_16 (by decide) ?_
  refine lv_iconst (v := 0) hx hb dX9_readOne_17 (by decide) ?_
  obtain ⟨q3, hq3, ht⟩ := it_b ht
  have hFc := q_freeW (hD T2) hS hA
  refine q_mv (va_runV (As := [.int p1, .int (-6), .int 0, .int 0]) (rest := []) ⟨hx, hb, hml, hown, hts⟩ (kX9_layStone l D cI cZ cO d0 H.size T2 p1 (-6) 0 0 q3 hq3) (cwV 4 hts gX9_readOne_X9_layStone rfl rfl rfl (by decide +kernel) ⟨Nat.le_of_ble_eq_true rfl, Nat.le_of_ble_eq_true rfl⟩) (q_mV (As := [.int p1, .int (-6), .int 0, .int 0]) hE hP (hD T2) (q0 := 0) (ci := 9) rfl rfl) rfl rfl hl.1 rfl (lv_room (Nat.le_of_ble_eq_true rfl)) dX9_readOne_18 ⟨Nat.le_of_ble_eq_true rfl, Nat.le_of_ble_eq_true rfl⟩) hS hFc (fun H locs hP1 hk hS => ?_)
  have hP : va_P D vwCl (wg9 cI cZ d0 q3) H := hP1
  refine lv_aload_n hx hb dX9_readOne_21 rfl (lv_at hl 0 rfl) ?_
  refine va_get (D := D) (ci := 9) (v := .ref (d0 8)) (C := RX9) (T := TX9) (N := 37) hx hb hts hi9 hown hE.1 hP 0 rfl rfl 7 (by decide) hw2 (fun _ h9 => h9) rfl dX9_readOne_22 ?_
  refine lv_iload_n hx hb dX9_readOne_25 rfl (lv_at hl 1 rfl) ?_
  refine lv_sipush (v := 999) hx hb dX9_readOne_26 (by decide +kernel) ?_
  refine lv_aload_n hx hb dX9_readOne_29 rfl (lv_at hl 0 rfl) ?_
  refine va_get (D := D) (ci := 9) (v := .ref (d0 8)) (C := RX9) (T := TX9) (N := 37) hx hb hts hi9 hown hE.1 hP 0 rfl rfl 7 (by decide) hw2 (fun _ h9 => h9) rfl dX9_readOne_30 ?_
  refine lv_iload_n hx hb dX9_readOne_33 rfl (lv_at hl 1 rfl) ?_
  obtain ⟨g4, ht⟩ := it_g ht
  refine va_iald hx hb hE.1 hP 8 0 rfl rfl (q_in g4) dX9_readOne_34 ?_
  refine lv_iconst (v := 1) hx hb dX9_readOne_35 (by decide) ?_
  refine lv_iadd hx hb dX9_readOne_36 ?_
  refine q_ri (va_runS (As := [.int 999, .int ((q3 7 p0.toNatClampNeg) + 1)]) (rest := [.int p0, .ref (d0 8)]) ⟨hx, hb, hml, hown, hts⟩ (kX9_less l D cI cZ cO 999 ((q3 7 p0.toNatClampNeg) + 1)) (va_cwS 2 hts gX9_readOne_X9_less rfl rfl rfl (by decide +kernel) ⟨Nat.le_of_ble_eq_true rfl, Nat.le_of_ble_eq_true rfl⟩) (q_rS hE q_nil) rfl rfl hl.1 rfl (lv_room (Nat.le_of_ble_eq_true rfl)) dX9_readOne_37 ⟨Nat.le_of_ble_eq_true rfl, Nat.le_of_ble_eq_true rfl⟩) (fun b5 => ?_)
  refine va_iast hx hb hE.1 hP (hD _) hS 8 0 rfl rfl (q_in g4) dX9_readOne_40 (fun H locs hP _ hS => ?_)
  have hP : va_P D vwCl (wg9 cI cZ d0 (q_su q3 7 p0.toNatClampNeg (xX9_less 999 ((q3 7 p0.toNatClampNeg) + 1)))) H := hP
  obtain ⟨T6, eT6⟩ : ∃ z : St, z = q_su q3 7 p0.toNatClampNeg (xX9_less 999 ((q3 7 p0.toNatClampNeg) + 1)) := ⟨_, rfl⟩
  rw [← eT6] at hP
  have ht := it_l ht eT6
  refine lv_aload_n hx hb dX9_readOne_41 rfl (lv_at hl 0 rfl) ?_
  refine va_get (D := D) (ci := 9) (v := .ref (d0 9)) (C := RX9) (T := TX9) (N := 37) hx hb hts hi9 hown hE.1 hP 0 rfl rfl 8 (by decide) hw3 (fun _ h9 => h9) rfl dX9_readOne_42 ?_
  refine lv_iload_n hx hb dX9_readOne_45 rfl (lv_at hl 1 rfl) ?_
  refine lv_iconst (v := 1) hx hb dX9_readOne_46 (by decide) ?_
  refine va_iast hx hb hE.1 hP (hD _) hS 9 0 rfl rfl (q_in g4) dX9_readOne_47 (fun H locs hP _ hS => ?_)
  have hP : va_P D vwCl (wg9 cI cZ d0 (q_su T6 8 p0.toNatClampNeg 1)) H := hP
  obtain ⟨T7, eT7⟩ : ∃ z : St, z = q_su T6 8 p0.toNatClampNeg 1 := ⟨_, rfl⟩
  rw [← eT7] at hP
  have ht := it_l ht eT7
  obtain rfl := Option.some.inj ht
  exact W.vret hx hb hr (fun t e1 hW => ⟨⟨(), rfl, trivial, q_at e1 hP⟩, hS.F e1⟩) hS.2.2 dX9_readOne_48
abbrev rmX9_meltOne : Room := { frames := 1, cells := 0, slots := 0, locals := 24 }
set_option maxHeartbeats 4000000 in
set_option maxRecDepth 100000 in
theorem kX9_meltOne (l : Launch) (D : va_G) (cI cZ cO : ClassId) (d0 : Nat → Nat) (sz : Nat) (S0 : St) (p0 : Int32) (tg : St) (ht : xX9_meltOne p0 S0 = some tg) : Met l yX9_meltOne wsX9_meltOne rmX9_meltOne (q_PM D cI cZ cO [.ref (d0 0), .int p0] sz (wg9 cI cZ d0 S0)) (va_Qv (fun _ : Unit => True) (fun _ t => va_P D vwCl (wg9 cI cZ d0 tg) t.heap) (va_A (wg9 cI cZ d0 S0) sz)) 0 0 (va_A (wg9 cI cZ d0 S0) sz) := by
  refine Met.ofW (cc := cX9_meltOne) (maxL := 2) (ret := none) (by decide) rfl ?_
  intro p e s m args below meth c s₁ B hml hv
  obtain ⟨rfl, hsz, hE, hP, hD0⟩ := hv
  have hx := B.exec
  have hb := B.bytes
  have hr := B.returns
  have hts := atoms_spec (ws := wsX9_meltOne) B.pre
  have hown : s.vm.findClass RX9 = some m.cls := findClass_of_methodNamed B.named
  have hlocks := B.notSynchronized
  have hi9 : ∀ w ∈ u_ws RX9 TX9 37, w ∈ wsX9_meltOne := by decide +kernel
  have hw0 := hts (.fieldLink RX9 19 "HailNamesModel" "size" "[I") (by decide +kernel)
  have hw1 := hts (.fieldLink RX9 77 "HailNamesModel" "melting" "I") (by decide +kernel)
  have hw2 := hts (.fieldLink RX9 162 "HailNamesModel" "lostAll" "I") (by decide +kernel)
  have hw3 := hts (.fieldLink RX9 165 "HailNamesModel" "lostNow" "I") (by decide +kernel)
  subst hsz
  have hD1 := hD0.self (sz := s.heap.size)
  generalize hAe : va_A (wg9 cI cZ d0 S0) s.heap.size = A at hD1 ⊢
  have hA : ∀ q : Nat, s.heap.size ≤ q → A q := fun q h => by rw [← hAe]; exact Or.inr h
  have hS : va_S A s.heap s.heap [] := va_S.rf
  have hD : ∀ (S0 : St), va_D A (wg9 cI cZ d0 S0) := fun S0 => q_D hD1 rfl
  have hl := lv_entry ([.ref (d0 0), .int p0]) (n := 2) (Nat.le_of_ble_eq_true rfl)
  rw [lg_entry_eq]
  generalize (lg_sl ([.ref (d0 0), .int p0]) ++ List.replicate (2 - (lg_sl ([.ref (d0 0), .int p0])).length) Slot.unset).toArray = ls at hl ⊢
  have hl : lv_has ls 2 [(0, .ref (d0 0)), (1, .int p0)] := hl
  have ht := (xX9_meltOne_s p0 S0).symm.trans ht
  refine lv_aload_n hx hb dX9_meltOne_0 rfl (lv_at hl 0 rfl) ?_
  refine va_get (D := D) (ci := 9) (v := .ref (d0 4)) (C := RX9) (T := TX9) (N := 37) hx hb hts hi9 hown hE.1 hP 0 rfl rfl 3 (by decide) hw0 (fun _ h9 => h9) rfl dX9_meltOne_1 ?_
  refine lv_iload_n hx hb dX9_meltOne_4 rfl (lv_at hl 1 rfl) ?_
  refine lv_dup2_11 hx hb dX9_meltOne_5 rfl rfl ?_
  obtain ⟨g1, ht⟩ := it_g ht
  refine va_iald hx hb hE.1 hP 4 0 rfl rfl (q_in g1) dX9_meltOne_6 ?_
  refine lv_aload_n hx hb dX9_meltOne_7 rfl (lv_at hl 0 rfl) ?_
  refine va_get (D := D) (ci := 9) (v := .int (S0 9 0)) (C := RX9) (T := TX9) (N := 37) hx hb hts hi9 hown hE.1 hP 0 rfl rfl 9 (by decide) hw1 (fun _ h9 => h9) rfl dX9_meltOne_8 ?_
  refine lv_isub hx hb dX9_meltOne_11 ?_
  refine va_iast hx hb hE.1 hP (hD _) hS 4 0 rfl rfl (q_in g1) dX9_meltOne_12 (fun H locs hP _ hS => ?_)
  have hP : va_P D vwCl (wg9 cI cZ d0 (q_su S0 3 p0.toNatClampNeg ((S0 3 p0.toNatClampNeg) - (S0 9 0)))) H := hP
  obtain ⟨T2, eT2⟩ : ∃ z : St, z = q_su S0 3 p0.toNatClampNeg ((S0 3 p0.toNatClampNeg) - (S0 9 0)) := ⟨_, rfl⟩
  rw [← eT2] at hP
  have ht := it_l ht eT2
  refine lv_aload_n hx hb dX9_meltOne_13 rfl (lv_at hl 0 rfl) ?_
  refine va_get (D := D) (ci := 9) (v := .ref (d0 4)) (C := RX9) (T := TX9) (N := 37) hx hb hts hi9 hown hE.1 hP 0 rfl rfl 3 (by decide) hw0 (fun _ h9 => h9) rfl dX9_meltOne_14 ?_
  refine lv_iload_n hx hb dX9_meltOne_17 rfl (lv_at hl 1 rfl) ?_
  refine va_iald hx hb hE.1 hP 4 0 rfl rfl (q_in g1) dX9_meltOne_18 ?_
  refine lv_if_gt (tgt := 60) hx hb dX9_meltOne_19 (by decide) (fun c3 => ?_) (fun c3 => ?_)
  · have ht := it_p c3 ht
    obtain rfl := Option.some.inj ht
    exact W.vret hx hb hr (fun t e1 hW => ⟨⟨(), rfl, trivial, q_at e1 hP⟩, hS.F e1⟩) hS.2.2 dX9_meltOne_60
  · have ht := it_n c3 ht
    refine lv_aload_n hx hb dX9_meltOne_22 rfl (lv_at hl 0 rfl) ?_
    refine lv_iload_n hx hb dX9_meltOne_23 rfl (lv_at hl 1 rfl) ?_
    refine lv_bipush (v := (-6)) hx hb dX9_meltOne_24 (by decide) ?_
    refine lv_iconst (v := 0) hx hb dX9_meltOne_26 (by decide) ?_
    refine lv_iconst (v := 0) hx hb dX9_meltOne_27 (by decide) ?_
    obtain ⟨q4, hq4, ht⟩ := it_b ht
    have hFc := q_freeW (hD T2) hS hA
    refine q_mv (va_runV (As := [.int p0, .int (-6), .int 0, .int 0]) (rest := []) ⟨hx, hb, hml, hown, hts⟩ (kX9_layStone l D cI cZ cO d0 H.size T2 p0 (-6) 0 0 q4 hq4) (cwV 4 hts gX9_meltOne_X9_layStone rfl rfl rfl (by decide +kernel) ⟨Nat.le_of_ble_eq_true rfl, Nat.le_of_ble_eq_true rfl⟩) (q_mV (As := [.int p0, .int (-6), .int 0, .int 0]) hE hP (hD T2) (q0 := 0) (ci := 9) rfl rfl) rfl rfl hl.1 rfl (lv_room (Nat.le_of_ble_eq_true rfl)) dX9_meltOne_28 ⟨Nat.le_of_ble_eq_true rfl, Nat.le_of_ble_eq_true rfl⟩) hS hFc (fun H locs hP1 hk hS => ?_)
    have hP : va_P D vwCl (wg9 cI cZ d0 q4) H := hP1
    refine lv_aload_n hx hb dX9_meltOne_31 rfl (lv_at hl 0 rfl) ?_
    refine lv_dup hx hb dX9_meltOne_32 rfl ?_
    refine va_get (D := D) (ci := 9) (v := .int (q4 21 0)) (C := RX9) (T := TX9) (N := 37) hx hb hts hi9 hown hE.1 hP 0 rfl rfl 21 (by decide) hw2 (fun _ h9 => h9) rfl dX9_meltOne_33 ?_
    refine lv_iconst (v := 1) hx hb dX9_meltOne_36 (by decide) ?_
    refine lv_iadd hx hb dX9_meltOne_37 ?_
    refine va_put (D := D) (ci := 9) (v := .int ((q4 21 0) + 1)) (ty := .int) (C := RX9) (T := TX9) (N := 37) hx hb hts hi9 tyX9 tyX9_ok nmX9 hown hE.1 hP (hD _) hS 0 rfl rfl 21 (by decide) hw2 (fun _ h9 => h9) rfl (by decide +kernel) rfl rfl (Nat.le_of_ble_eq_true rfl) dX9_meltOne_38 (fun H locs hP _ hS => ?_)
    have hP : va_P D vwCl (wg9 cI cZ d0 (q_su q4 21 0 ((q4 21 0) + 1))) H := hP
    obtain ⟨T5, eT5⟩ : ∃ z : St, z = q_su q4 21 0 ((q4 21 0) + 1) := ⟨_, rfl⟩
    rw [← eT5] at hP
    have ht := it_l ht eT5
    refine lv_aload_n hx hb dX9_meltOne_41 rfl (lv_at hl 0 rfl) ?_
    refine lv_aload_n hx hb dX9_meltOne_42 rfl (lv_at hl 0 rfl) ?_
    refine va_get (D := D) (ci := 9) (v := .int (T5 22 0)) (C := RX9) (T := TX9) (N := 37) hx hb hts hi9 hown hE.1 hP 0 rfl rfl 22 (by decide) hw3 (fun _ h9 => h9) rfl dX9_meltOne_43 ?_
    refine lv_if_ge (tgt := 53) hx hb dX9_meltOne_46 (by decide) (fun c6 => ?_) (fun c6 => ?_)
    · have ht := it_p c6 ht
      refine lv_aload_n hx hb dX9_meltOne_53 rfl (lv_at hl 0 rfl) ?_
      refine va_get (D := D) (ci := 9) (v := .int (T5 22 0)) (C := RX9) (T := TX9) (N := 37) hx hb hts hi9 hown hE.1 hP 0 rfl rfl 22 (by decide) hw3 (fun _ h9 => h9) rfl dX9_meltOne_54 ?_
      refine va_put (D := D) (ci := 9) (v := .int (T5 22 0)) (ty := .int) (C := RX9) (T := TX9) (N := 37) hx hb hts hi9 tyX9 tyX9_ok nmX9 hown hE.1 hP (hD _) hS 0 rfl rfl 22 (by decide) hw3 (fun _ h9 => h9) rfl (by decide +kernel) rfl rfl (Nat.le_of_ble_eq_true rfl) dX9_meltOne_57 (fun H locs hP _ hS => ?_)
      have hP : va_P D vwCl (wg9 cI cZ d0 (q_su T5 22 0 (T5 22 0))) H := hP
      obtain ⟨T7, eT7⟩ : ∃ z : St, z = q_su T5 22 0 (T5 22 0) := ⟨_, rfl⟩
      rw [← eT7] at hP
      have ht := it_l ht eT7
      obtain rfl := Option.some.inj ht
      exact W.vret hx hb hr (fun t e1 hW => ⟨⟨(), rfl, trivial, q_at e1 hP⟩, hS.F e1⟩) hS.2.2 dX9_meltOne_60
    · have ht := it_n c6 ht
      refine lv_iload_n hx hb dX9_meltOne_49 rfl (lv_at hl 1 rfl) ?_
      refine lv_goto (tgt := 57) hx hb dX9_meltOne_50 (by decide) ?_
      refine va_put (D := D) (ci := 9) (v := .int p0) (ty := .int) (C := RX9) (T := TX9) (N := 37) hx hb hts hi9 tyX9 tyX9_ok nmX9 hown hE.1 hP (hD _) hS 0 rfl rfl 22 (by decide) hw3 (fun _ h9 => h9) rfl (by decide +kernel) rfl rfl (Nat.le_of_ble_eq_true rfl) dX9_meltOne_57 (fun H locs hP _ hS => ?_)
      have hP : va_P D vwCl (wg9 cI cZ d0 (q_su T5 22 0 p0)) H := hP
      obtain ⟨T8, eT8⟩ : ∃ z : St, z = q_su T5 22 0 p0 := ⟨_, rfl⟩
      rw [← eT8] at hP
      have ht := it_l ht eT8
      obtain rfl := Option.some.inj ht
      exact W.vret hx hb hr (fun t e1 hW => ⟨⟨(), rfl, trivial, q_at e1 hP⟩, hS.F e1⟩) hS.2.2 dX9_meltOne_60
abbrev rmX9_passSecond : Room := { frames := 2, cells := 0, slots := 0, locals := 45 }
set_option maxHeartbeats 4000000 in
set_option maxRecDepth 100000 in
theorem kX9_passSecond (l : Launch) (D : va_G) (cI cZ cO : ClassId) (d0 : Nat → Nat) (sz : Nat) (S0 : St) (tg : St) (ht : xX9_passSecond S0 = some tg) : Met l yX9_passSecond wsX9_passSecond rmX9_passSecond (q_PM D cI cZ cO [.ref (d0 0)] sz (wg9 cI cZ d0 S0)) (va_Qv (fun _ : Unit => True) (fun _ t => va_P D vwCl (wg9 cI cZ d0 tg) t.heap) (va_A (wg9 cI cZ d0 S0) sz)) 0 0 (va_A (wg9 cI cZ d0 S0) sz) := by
  refine Met.ofW (cc := cX9_passSecond) (maxL := 2) (ret := none) (by decide) rfl ?_
  intro p e s m args below meth c s₁ B hml hv
  obtain ⟨rfl, hsz, hE, hP, hD0⟩ := hv
  have hx := B.exec
  have hb := B.bytes
  have hr := B.returns
  have hts := atoms_spec (ws := wsX9_passSecond) B.pre
  have hown : s.vm.findClass RX9 = some m.cls := findClass_of_methodNamed B.named
  have hlocks := B.notSynchronized
  have hi9 : ∀ w ∈ u_ws RX9 TX9 37, w ∈ wsX9_passSecond := by decide +kernel
  have hw0 := hts (.fieldLink RX9 16 "HailNamesModel" "lies" "[I") (by decide +kernel)
  have hw1 := hts (.fieldLink RX9 156 "HailNamesModel" "seconds" "I") (by decide +kernel)
  have hw2 := hts (.fieldLink RX9 28 "HailNamesModel" "stun" "[I") (by decide +kernel)
  have hw3 := hts (.fieldLink RX9 34 "HailNamesModel" "did" "[I") (by decide +kernel)
  subst hsz
  have hD1 := hD0.self (sz := s.heap.size)
  generalize hAe : va_A (wg9 cI cZ d0 S0) s.heap.size = A at hD1 ⊢
  have hA : ∀ q : Nat, s.heap.size ≤ q → A q := fun q h => by rw [← hAe]; exact Or.inr h
  have hS : va_S A s.heap s.heap [] := va_S.rf
  have hD : ∀ (S0 : St), va_D A (wg9 cI cZ d0 S0) := fun S0 => q_D hD1 rfl
  have hl := lv_entry ([.ref (d0 0)]) (n := 2) (Nat.le_of_ble_eq_true rfl)
  rw [lg_entry_eq]
  generalize (lg_sl ([.ref (d0 0)]) ++ List.replicate (2 - (lg_sl ([.ref (d0 0)])).length) Slot.unset).toArray = ls at hl ⊢
  have hl : lv_has ls 2 [(0, .ref (d0 0))] := hl
  have ht := (xX9_passSecond_s S0).symm.trans ht
  obtain ⟨Q, hQ⟩ : ∃ Q, Q = MQ below (va_Qv (fun _ : Unit => True) (fun _ t => va_P D vwCl (wg9 cI cZ d0 tg) t.heap) A) ([.ref (d0 0)] : List Value).toArray s 0 0 A := ⟨_, rfl⟩
  rw [← hQ]
  have L2 : ∀ (n : Nat) (x1 : Int32) (S0 : St) (H : Heap) (locs : List Loc) (_ : va_P D vwCl (wg9 cI cZ d0 S0) H) (_ : va_S A s.heap H locs) (ls : Array Slot) (_ : lv_has ls 2 [(0, .ref (d0 0)), (1, .int x1)]) (_ : xX9_passSecond_h2 n x1 S0 = some tg), W p l e (headSpec wsX9_passSecond rmX9_passSecond).room s m ([.ref (d0 0)] : List Value).toArray below meth c H locs 0 0 Q (F0 m 2 ls []) := by
    intro n
    induction n with
    | zero =>
      intro x1 S0 H locs hP hS ls hl ht
      exact it_z ht
    | succ n2 ih2 =>
      intro x1 S0 H locs hP hS ls hl ht
      have ht := (xX9_passSecond_h2_s n2 x1 S0).symm.trans ht
      have L30 : ∀ (n : Nat) (x1 : Int32) (S0 : St) (H : Heap) (locs : List Loc) (_ : va_P D vwCl (wg9 cI cZ d0 S0) H) (_ : va_S A s.heap H locs) (ls : Array Slot) (_ : lv_has ls 2 [(0, .ref (d0 0)), (1, .int x1)]) (_ : xX9_passSecond_h30 n x1 S0 = some tg), W p l e (headSpec wsX9_passSecond rmX9_passSecond).room s m ([.ref (d0 0)] : List Value).toArray below meth c H locs 0 0 Q (F0 m 30 ls []) := by
        intro n
        induction n with
        | zero =>
          intro x1 S0 H locs hP hS ls hl ht
          exact it_z ht
        | succ n30 ih30 =>
          intro x1 S0 H locs hP hS ls hl ht
          have ht := (xX9_passSecond_h30_s n30 x1 S0).symm.trans ht
          refine lv_iload_n hx hb dX9_passSecond_30 rfl (lv_at hl 1 rfl) ?_
          refine lv_iconst (v := 4) hx hb dX9_passSecond_31 (by decide) ?_
          refine lv_icmp_ge (tgt := 71) hx hb dX9_passSecond_32 (by decide) (fun c5 => ?_) (fun c5 => ?_)
          · have ht := it_p c5 ht
            refine lv_aload_n hx hb dX9_passSecond_71 rfl (lv_at hl 0 rfl) ?_
            refine lv_dup hx hb dX9_passSecond_72 rfl ?_
            refine va_get (D := D) (ci := 9) (v := .int (S0 10 0)) (C := RX9) (T := TX9) (N := 37) hx hb hts hi9 hown hE.1 hP 0 rfl rfl 10 (by decide) hw1 (fun _ h9 => h9) rfl dX9_passSecond_73 ?_
            refine lv_iconst (v := 1) hx hb dX9_passSecond_76 (by decide) ?_
            refine lv_iadd hx hb dX9_passSecond_77 ?_
            refine va_put (D := D) (ci := 9) (v := .int ((S0 10 0) + 1)) (ty := .int) (C := RX9) (T := TX9) (N := 37) hx hb hts hi9 tyX9 tyX9_ok nmX9 hown hE.1 hP (hD _) hS 0 rfl rfl 10 (by decide) hw1 (fun _ h9 => h9) rfl (by decide +kernel) rfl rfl (Nat.le_of_ble_eq_true rfl) dX9_passSecond_78 (fun H locs hP _ hS => ?_)
            have hP : va_P D vwCl (wg9 cI cZ d0 (q_su S0 10 0 ((S0 10 0) + 1))) H := hP
            obtain ⟨T6, eT6⟩ : ∃ z : St, z = q_su S0 10 0 ((S0 10 0) + 1) := ⟨_, rfl⟩
            rw [← eT6] at hP
            have ht := it_l ht eT6
            subst hQ
            obtain rfl := Option.some.inj ht
            exact W.vret hx hb hr (fun t e1 hW => ⟨⟨(), rfl, trivial, q_at e1 hP⟩, hS.F e1⟩) hS.2.2 dX9_passSecond_81
          · have ht := it_n c5 ht
            refine lv_aload_n hx hb dX9_passSecond_35 rfl (lv_at hl 0 rfl) ?_
            refine va_get (D := D) (ci := 9) (v := .ref (d0 7)) (C := RX9) (T := TX9) (N := 37) hx hb hts hi9 hown hE.1 hP 0 rfl rfl 6 (by decide) hw2 (fun _ h9 => h9) rfl dX9_passSecond_36 ?_
            refine lv_iload_n hx hb dX9_passSecond_39 rfl (lv_at hl 1 rfl) ?_
            refine lv_dup2_11 hx hb dX9_passSecond_40 rfl rfl ?_
            obtain ⟨g7, ht⟩ := it_g ht
            refine va_iald hx hb hE.1 hP 7 0 rfl rfl (q_in g7) dX9_passSecond_41 ?_
            refine lv_aload_n hx hb dX9_passSecond_42 rfl (lv_at hl 0 rfl) ?_
            refine va_get (D := D) (ci := 9) (v := .ref (d0 7)) (C := RX9) (T := TX9) (N := 37) hx hb hts hi9 hown hE.1 hP 0 rfl rfl 6 (by decide) hw2 (fun _ h9 => h9) rfl dX9_passSecond_43 ?_
            refine lv_iload_n hx hb dX9_passSecond_46 rfl (lv_at hl 1 rfl) ?_
            refine va_iald hx hb hE.1 hP 7 0 rfl rfl (q_in g7) dX9_passSecond_47 ?_
            refine lv_if_le (tgt := 55) hx hb dX9_passSecond_48 (by decide) (fun c8 => ?_) (fun c8 => ?_)
            · have ht := it_p c8 ht
              refine lv_iconst (v := 0) hx hb dX9_passSecond_55 (by decide) ?_
              refine lv_isub hx hb dX9_passSecond_56 ?_
              refine va_iast hx hb hE.1 hP (hD _) hS 7 0 rfl rfl (q_in g7) dX9_passSecond_57 (fun H locs hP _ hS => ?_)
              have hP : va_P D vwCl (wg9 cI cZ d0 (q_su S0 6 x1.toNatClampNeg ((S0 6 x1.toNatClampNeg) - 0))) H := hP
              obtain ⟨T9, eT9⟩ : ∃ z : St, z = q_su S0 6 x1.toNatClampNeg ((S0 6 x1.toNatClampNeg) - 0) := ⟨_, rfl⟩
              rw [← eT9] at hP
              have ht := it_l ht eT9
              refine lv_aload_n hx hb dX9_passSecond_58 rfl (lv_at hl 0 rfl) ?_
              refine va_get (D := D) (ci := 9) (v := .ref (d0 9)) (C := RX9) (T := TX9) (N := 37) hx hb hts hi9 hown hE.1 hP 0 rfl rfl 8 (by decide) hw3 (fun _ h9 => h9) rfl dX9_passSecond_59 ?_
              refine lv_iload_n hx hb dX9_passSecond_62 rfl (lv_at hl 1 rfl) ?_
              refine lv_iconst (v := 0) hx hb dX9_passSecond_63 (by decide) ?_
              refine va_iast hx hb hE.1 hP (hD _) hS 9 0 rfl rfl (q_in g7) dX9_passSecond_64 (fun H locs hP _ hS => ?_)
              have hP : va_P D vwCl (wg9 cI cZ d0 (q_su T9 8 x1.toNatClampNeg 0)) H := hP
              obtain ⟨T10, eT10⟩ : ∃ z : St, z = q_su T9 8 x1.toNatClampNeg 0 := ⟨_, rfl⟩
              rw [← eT10] at hP
              have ht := it_l ht eT10
              refine lv_iinc (v := x1 + 1) (lv' := [(1, .int (x1 + 1)), (0, .ref (d0 0))]) hx hb dX9_passSecond_65 hl (k := 1) rfl rfl (by decide) rfl (fun ls hl => ?_)
              refine lv_goto (tgt := 30) hx hb dX9_passSecond_68 (by decide) ?_
              exact ih30 (x1 + 1) T10 _ _ hP hS ls (lv_sub hl [1, 0] rfl) ht
            · have ht := it_n c8 ht
              refine lv_iconst (v := 1) hx hb dX9_passSecond_51 (by decide) ?_
              refine lv_goto (tgt := 56) hx hb dX9_passSecond_52 (by decide) ?_
              refine lv_isub hx hb dX9_passSecond_56 ?_
              refine va_iast hx hb hE.1 hP (hD _) hS 7 0 rfl rfl (q_in g7) dX9_passSecond_57 (fun H locs hP _ hS => ?_)
              have hP : va_P D vwCl (wg9 cI cZ d0 (q_su S0 6 x1.toNatClampNeg ((S0 6 x1.toNatClampNeg) - 1))) H := hP
              obtain ⟨T11, eT11⟩ : ∃ z : St, z = q_su S0 6 x1.toNatClampNeg ((S0 6 x1.toNatClampNeg) - 1) := ⟨_, rfl⟩
              rw [← eT11] at hP
              have ht := it_l ht eT11
              refine lv_aload_n hx hb dX9_passSecond_58 rfl (lv_at hl 0 rfl) ?_
              refine va_get (D := D) (ci := 9) (v := .ref (d0 9)) (C := RX9) (T := TX9) (N := 37) hx hb hts hi9 hown hE.1 hP 0 rfl rfl 8 (by decide) hw3 (fun _ h9 => h9) rfl dX9_passSecond_59 ?_
              refine lv_iload_n hx hb dX9_passSecond_62 rfl (lv_at hl 1 rfl) ?_
              refine lv_iconst (v := 0) hx hb dX9_passSecond_63 (by decide) ?_
              refine va_iast hx hb hE.1 hP (hD _) hS 9 0 rfl rfl (q_in g7) dX9_passSecond_64 (fun H locs hP _ hS => ?_)
              have hP : va_P D vwCl (wg9 cI cZ d0 (q_su T11 8 x1.toNatClampNeg 0)) H := hP
              obtain ⟨T12, eT12⟩ : ∃ z : St, z = q_su T11 8 x1.toNatClampNeg 0 := ⟨_, rfl⟩
              rw [← eT12] at hP
              have ht := it_l ht eT12
              refine lv_iinc (v := x1 + 1) (lv' := [(1, .int (x1 + 1)), (0, .ref (d0 0))]) hx hb dX9_passSecond_65 hl (k := 1) rfl rfl (by decide) rfl (fun ls hl => ?_)
              refine lv_goto (tgt := 30) hx hb dX9_passSecond_68 (by decide) ?_
              exact ih30 (x1 + 1) T12 _ _ hP hS ls (lv_sub hl [1, 0] rfl) ht
      refine lv_iload_n hx hb dX9_passSecond_2 rfl (lv_at hl 1 rfl) ?_
      refine lv_bipush (v := 8) hx hb dX9_passSecond_3 (by decide) ?_
      refine lv_icmp_ge (tgt := 28) hx hb dX9_passSecond_5 (by decide) (fun c1 => ?_) (fun c1 => ?_)
      · have ht := it_p c1 ht
        refine lv_iconst (v := 0) hx hb dX9_passSecond_28 (by decide) ?_
        refine lv_istore_n (lv' := [(1, .int 0), (0, .ref (d0 0))]) hx hb dX9_passSecond_29 rfl hl (by decide) rfl (fun ls hl => ?_)
        exact L30 5000 0 S0 _ _ hP hS ls (lv_sub hl [1, 0] rfl) ht
      · have ht := it_n c1 ht
        refine lv_aload_n hx hb dX9_passSecond_8 rfl (lv_at hl 0 rfl) ?_
        refine va_get (D := D) (ci := 9) (v := .ref (d0 3)) (C := RX9) (T := TX9) (N := 37) hx hb hts hi9 hown hE.1 hP 0 rfl rfl 2 (by decide) hw0 (fun _ h9 => h9) rfl dX9_passSecond_9 ?_
        refine lv_iload_n hx hb dX9_passSecond_12 rfl (lv_at hl 1 rfl) ?_
        obtain ⟨g2, ht⟩ := it_g ht
        refine va_iald hx hb hE.1 hP 3 0 rfl rfl (q_in g2) dX9_passSecond_13 ?_
        refine lv_if_lt (tgt := 22) hx hb dX9_passSecond_14 (by decide) (fun c3 => ?_) (fun c3 => ?_)
        · have ht := it_p c3 ht
          refine lv_iinc (v := x1 + 1) (lv' := [(1, .int (x1 + 1)), (0, .ref (d0 0))]) hx hb dX9_passSecond_22 hl (k := 1) rfl rfl (by decide) rfl (fun ls hl => ?_)
          refine lv_goto (tgt := 2) hx hb dX9_passSecond_25 (by decide) ?_
          exact ih2 (x1 + 1) S0 _ _ hP hS ls (lv_sub hl [1, 0] rfl) ht
        · have ht := it_n c3 ht
          refine lv_aload_n hx hb dX9_passSecond_17 rfl (lv_at hl 0 rfl) ?_
          refine lv_iload_n hx hb dX9_passSecond_18 rfl (lv_at hl 1 rfl) ?_
          obtain ⟨q4, hq4, ht⟩ := it_b ht
          have hFc := q_freeW (hD S0) hS hA
          refine q_mv (va_runV (As := [.int x1]) (rest := []) ⟨hx, hb, hml, hown, hts⟩ (kX9_meltOne l D cI cZ cO d0 H.size S0 x1 q4 hq4) (cwV 1 hts gX9_passSecond_X9_meltOne rfl rfl rfl (by decide +kernel) ⟨Nat.le_of_ble_eq_true rfl, Nat.le_of_ble_eq_true rfl⟩) (q_mV (As := [.int x1]) hE hP (hD S0) (q0 := 0) (ci := 9) rfl rfl) rfl rfl hl.1 rfl (lv_room (Nat.le_of_ble_eq_true rfl)) dX9_passSecond_19 ⟨Nat.le_of_ble_eq_true rfl, Nat.le_of_ble_eq_true rfl⟩) hS hFc (fun H locs hP1 hk hS => ?_)
          have hP : va_P D vwCl (wg9 cI cZ d0 q4) H := hP1
          refine lv_iinc (v := x1 + 1) (lv' := [(1, .int (x1 + 1)), (0, .ref (d0 0))]) hx hb dX9_passSecond_22 hl (k := 1) rfl rfl (by decide) rfl (fun ls hl => ?_)
          refine lv_goto (tgt := 2) hx hb dX9_passSecond_25 (by decide) ?_
          exact ih2 (x1 + 1) q4 _ _ hP hS ls (lv_sub hl [1, 0] rfl) ht
  refine lv_iconst (v := 0) hx hb dX9_passSecond_0 (by decide) ?_
  refine lv_istore_n (lv' := [(1, .int 0), (0, .ref (d0 0))]) hx hb dX9_passSecond_1 rfl hl (by decide) rfl (fun ls hl => ?_)
  exact L2 5000 0 S0 _ _ hP hS ls (lv_sub hl [1, 0] rfl) ht
abbrev rmX9_happen : Room := { frames := 3, cells := 0, slots := 0, locals := 66 }
set_option maxHeartbeats 4000000 in
set_option maxRecDepth 100000 in
theorem kX9_happen (l : Launch) (D : va_G) (cI cZ cO : ClassId) (d0 : Nat → Nat) (sz : Nat) (S0 : St) (p0 : Int32) (p1 : Int32) (p2 : Int32) (tg : St) (ht : xX9_happen p0 p1 p2 S0 = some tg) : Met l yX9_happen wsX9_happen rmX9_happen (q_PM D cI cZ cO [.ref (d0 0), .int p0, .int p1, .int p2] sz (wg9 cI cZ d0 S0)) (va_Qv (fun _ : Unit => True) (fun _ t => va_P D vwCl (wg9 cI cZ d0 tg) t.heap) (va_A (wg9 cI cZ d0 S0) sz)) 0 0 (va_A (wg9 cI cZ d0 S0) sz) := by
  refine Met.ofW (cc := cX9_happen) (maxL := 4) (ret := none) (by decide) rfl ?_
  intro p e s m args below meth c s₁ B hml hv
  obtain ⟨rfl, hsz, hE, hP, hD0⟩ := hv
  have hx := B.exec
  have hb := B.bytes
  have hr := B.returns
  have hts := atoms_spec (ws := wsX9_happen) B.pre
  have hown : s.vm.findClass RX9 = some m.cls := findClass_of_methodNamed B.named
  have hlocks := B.notSynchronized
  have hi9 : ∀ w ∈ u_ws RX9 TX9 37, w ∈ wsX9_happen := by decide +kernel
  have hw0 := hts (.fieldLink RX9 165 "HailNamesModel" "lostNow" "I") (by decide +kernel)
  have hw1 := hts (.fieldLink RX9 7 "HailNamesModel" "counts" "[I") (by decide +kernel)
  subst hsz
  have hD1 := hD0.self (sz := s.heap.size)
  generalize hAe : va_A (wg9 cI cZ d0 S0) s.heap.size = A at hD1 ⊢
  have hA : ∀ q : Nat, s.heap.size ≤ q → A q := fun q h => by rw [← hAe]; exact Or.inr h
  have hS : va_S A s.heap s.heap [] := va_S.rf
  have hD : ∀ (S0 : St), va_D A (wg9 cI cZ d0 S0) := fun S0 => q_D hD1 rfl
  have hl := lv_entry ([.ref (d0 0), .int p0, .int p1, .int p2]) (n := 4) (Nat.le_of_ble_eq_true rfl)
  rw [lg_entry_eq]
  generalize (lg_sl ([.ref (d0 0), .int p0, .int p1, .int p2]) ++ List.replicate (4 - (lg_sl ([.ref (d0 0), .int p0, .int p1, .int p2])).length) Slot.unset).toArray = ls at hl ⊢
  have hl : lv_has ls 4 [(0, .ref (d0 0)), (1, .int p0), (2, .int p1), (3, .int p2)] := hl
  have ht := (xX9_happen_s p0 p1 p2 S0).symm.trans ht
  refine lv_aload_n hx hb dX9_happen_0 rfl (lv_at hl 0 rfl) ?_
  refine lv_bipush (v := (-6)) hx hb dX9_happen_1 (by decide) ?_
  refine va_put (D := D) (ci := 9) (v := .int (-6)) (ty := .int) (C := RX9) (T := TX9) (N := 37) hx hb hts hi9 tyX9 tyX9_ok nmX9 hown hE.1 hP (hD _) hS 0 rfl rfl 22 (by decide) hw0 (fun _ h9 => h9) rfl (by decide +kernel) rfl rfl (Nat.le_of_ble_eq_true rfl) dX9_happen_3 (fun H locs hP _ hS => ?_)
  have hP : va_P D vwCl (wg9 cI cZ d0 (q_su S0 22 0 (-6))) H := hP
  obtain ⟨T1, eT1⟩ : ∃ z : St, z = q_su S0 22 0 (-6) := ⟨_, rfl⟩
  rw [← eT1] at hP
  have ht := it_l ht eT1
  refine lv_iload_n hx hb dX9_happen_6 rfl (lv_at hl 1 rfl) ?_
  by_cases c2 : p0 = 0
  · have ht := it_p c2 ht
    refine lv_tableIn (tgt := 40) hx hb dX9_happen_7 (by rw [c2]; decide) (by rw [c2]; decide) (by rw [c2]; rfl) (by decide) ?_
    refine lv_aload_n hx hb dX9_happen_40 rfl (lv_at hl 0 rfl) ?_
    refine va_get (D := D) (ci := 9) (v := .ref (d0 1)) (C := RX9) (T := TX9) (N := 37) hx hb hts hi9 hown hE.1 hP 0 rfl rfl 0 (by decide) hw1 (fun _ h9 => h9) rfl dX9_happen_41 ?_
    refine lv_iload_n hx hb dX9_happen_44 rfl (lv_at hl 3 rfl) ?_
    refine lv_dup2_11 hx hb dX9_happen_45 rfl rfl ?_
    obtain ⟨g3, ht⟩ := it_g ht
    refine va_iald hx hb hE.1 hP 1 0 rfl rfl (q_in g3) dX9_happen_46 ?_
    refine lv_iconst (v := 1) hx hb dX9_happen_47 (by decide) ?_
    refine lv_iadd hx hb dX9_happen_48 ?_
    refine va_iast hx hb hE.1 hP (hD _) hS 1 0 rfl rfl (q_in g3) dX9_happen_49 (fun H locs hP _ hS => ?_)
    have hP : va_P D vwCl (wg9 cI cZ d0 (q_su T1 0 p2.toNatClampNeg ((T1 0 p2.toNatClampNeg) + 1))) H := hP
    obtain ⟨T4, eT4⟩ : ∃ z : St, z = q_su T1 0 p2.toNatClampNeg ((T1 0 p2.toNatClampNeg) + 1) := ⟨_, rfl⟩
    rw [← eT4] at hP
    have ht := it_l ht eT4
    refine lv_goto (tgt := 93) hx hb dX9_happen_50 (by decide) ?_
    obtain rfl := Option.some.inj ht
    exact W.vret hx hb hr (fun t e1 hW => ⟨⟨(), rfl, trivial, q_at e1 hP⟩, hS.F e1⟩) hS.2.2 dX9_happen_93
  have ht := it_n c2 ht
  by_cases c5 : p0 = 1
  · have ht := it_p c5 ht
    refine lv_tableIn (tgt := 53) hx hb dX9_happen_7 (by rw [c5]; decide) (by rw [c5]; decide) (by rw [c5]; rfl) (by decide) ?_
    refine lv_aload_n hx hb dX9_happen_53 rfl (lv_at hl 0 rfl) ?_
    refine lv_iload_n hx hb dX9_happen_54 rfl (lv_at hl 2 rfl) ?_
    refine lv_iload_n hx hb dX9_happen_55 rfl (lv_at hl 3 rfl) ?_
    obtain ⟨q6, hq6, ht⟩ := it_b ht
    have hFc := q_freeW (hD T1) hS hA
    refine q_mv (va_runV (As := [.int p1, .int p2]) (rest := []) ⟨hx, hb, hml, hown, hts⟩ (kX9_fall l D cI cZ cO d0 H.size T1 p1 p2 q6 hq6) (cwV 2 hts gX9_happen_X9_fall rfl rfl rfl (by decide +kernel) ⟨Nat.le_of_ble_eq_true rfl, Nat.le_of_ble_eq_true rfl⟩) (q_mV (As := [.int p1, .int p2]) hE hP (hD T1) (q0 := 0) (ci := 9) rfl rfl) rfl rfl hl.1 rfl (lv_room (Nat.le_of_ble_eq_true rfl)) dX9_happen_56 ⟨Nat.le_of_ble_eq_true rfl, Nat.le_of_ble_eq_true rfl⟩) hS hFc (fun H locs hP1 hk hS => ?_)
    have hP : va_P D vwCl (wg9 cI cZ d0 q6) H := hP1
    refine lv_goto (tgt := 93) hx hb dX9_happen_59 (by decide) ?_
    obtain rfl := Option.some.inj ht
    exact W.vret hx hb hr (fun t e1 hW => ⟨⟨(), rfl, trivial, q_at e1 hP⟩, hS.F e1⟩) hS.2.2 dX9_happen_93
  have ht := it_n c5 ht
  by_cases c7 : p0 = 2
  · have ht := it_p c7 ht
    refine lv_tableIn (tgt := 62) hx hb dX9_happen_7 (by rw [c7]; decide) (by rw [c7]; decide) (by rw [c7]; rfl) (by decide) ?_
    refine lv_aload_n hx hb dX9_happen_62 rfl (lv_at hl 0 rfl) ?_
    refine lv_iload_n hx hb dX9_happen_63 rfl (lv_at hl 2 rfl) ?_
    refine lv_iconst (v := 1) hx hb dX9_happen_64 (by decide) ?_
    obtain ⟨q8, hq8, ht⟩ := it_b ht
    have hFc := q_freeW (hD T1) hS hA
    refine q_mv (va_runV (As := [.int p1, .int 1]) (rest := []) ⟨hx, hb, hml, hown, hts⟩ (kX9_walk l D cI cZ cO d0 H.size T1 p1 1 q8 hq8) (cwV 2 hts gX9_happen_X9_walk rfl rfl rfl (by decide +kernel) ⟨Nat.le_of_ble_eq_true rfl, Nat.le_of_ble_eq_true rfl⟩) (q_mV (As := [.int p1, .int 1]) hE hP (hD T1) (q0 := 0) (ci := 9) rfl rfl) rfl rfl hl.1 rfl (lv_room (Nat.le_of_ble_eq_true rfl)) dX9_happen_65 ⟨Nat.le_of_ble_eq_true rfl, Nat.le_of_ble_eq_true rfl⟩) hS hFc (fun H locs hP1 hk hS => ?_)
    have hP : va_P D vwCl (wg9 cI cZ d0 q8) H := hP1
    refine lv_goto (tgt := 93) hx hb dX9_happen_68 (by decide) ?_
    obtain rfl := Option.some.inj ht
    exact W.vret hx hb hr (fun t e1 hW => ⟨⟨(), rfl, trivial, q_at e1 hP⟩, hS.F e1⟩) hS.2.2 dX9_happen_93
  have ht := it_n c7 ht
  by_cases c9 : p0 = 3
  · have ht := it_p c9 ht
    refine lv_tableIn (tgt := 71) hx hb dX9_happen_7 (by rw [c9]; decide) (by rw [c9]; decide) (by rw [c9]; rfl) (by decide) ?_
    refine lv_aload_n hx hb dX9_happen_71 rfl (lv_at hl 0 rfl) ?_
    refine lv_iload_n hx hb dX9_happen_72 rfl (lv_at hl 2 rfl) ?_
    refine lv_iconst (v := (-1)) hx hb dX9_happen_73 (by decide) ?_
    obtain ⟨q10, hq10, ht⟩ := it_b ht
    have hFc := q_freeW (hD T1) hS hA
    refine q_mv (va_runV (As := [.int p1, .int (-1)]) (rest := []) ⟨hx, hb, hml, hown, hts⟩ (kX9_walk l D cI cZ cO d0 H.size T1 p1 (-1) q10 hq10) (cwV 2 hts gX9_happen_X9_walk rfl rfl rfl (by decide +kernel) ⟨Nat.le_of_ble_eq_true rfl, Nat.le_of_ble_eq_true rfl⟩) (q_mV (As := [.int p1, .int (-1)]) hE hP (hD T1) (q0 := 0) (ci := 9) rfl rfl) rfl rfl hl.1 rfl (lv_room (Nat.le_of_ble_eq_true rfl)) dX9_happen_74 ⟨Nat.le_of_ble_eq_true rfl, Nat.le_of_ble_eq_true rfl⟩) hS hFc (fun H locs hP1 hk hS => ?_)
    have hP : va_P D vwCl (wg9 cI cZ d0 q10) H := hP1
    refine lv_goto (tgt := 93) hx hb dX9_happen_77 (by decide) ?_
    obtain rfl := Option.some.inj ht
    exact W.vret hx hb hr (fun t e1 hW => ⟨⟨(), rfl, trivial, q_at e1 hP⟩, hS.F e1⟩) hS.2.2 dX9_happen_93
  have ht := it_n c9 ht
  by_cases c11 : p0 = 4
  · have ht := it_p c11 ht
    refine lv_tableIn (tgt := 80) hx hb dX9_happen_7 (by rw [c11]; decide) (by rw [c11]; decide) (by rw [c11]; rfl) (by decide) ?_
    refine lv_aload_n hx hb dX9_happen_80 rfl (lv_at hl 0 rfl) ?_
    refine lv_iload_n hx hb dX9_happen_81 rfl (lv_at hl 2 rfl) ?_
    refine lv_iload_n hx hb dX9_happen_82 rfl (lv_at hl 3 rfl) ?_
    obtain ⟨q12, hq12, ht⟩ := it_b ht
    have hFc := q_freeW (hD T1) hS hA
    refine q_mv (va_runV (As := [.int p1, .int p2]) (rest := []) ⟨hx, hb, hml, hown, hts⟩ (kX9_readOne l D cI cZ cO d0 H.size T1 p1 p2 q12 hq12) (cwV 2 hts gX9_happen_X9_readOne rfl rfl rfl (by decide +kernel) ⟨Nat.le_of_ble_eq_true rfl, Nat.le_of_ble_eq_true rfl⟩) (q_mV (As := [.int p1, .int p2]) hE hP (hD T1) (q0 := 0) (ci := 9) rfl rfl) rfl rfl hl.1 rfl (lv_room (Nat.le_of_ble_eq_true rfl)) dX9_happen_83 ⟨Nat.le_of_ble_eq_true rfl, Nat.le_of_ble_eq_true rfl⟩) hS hFc (fun H locs hP1 hk hS => ?_)
    have hP : va_P D vwCl (wg9 cI cZ d0 q12) H := hP1
    refine lv_goto (tgt := 93) hx hb dX9_happen_86 (by decide) ?_
    obtain rfl := Option.some.inj ht
    exact W.vret hx hb hr (fun t e1 hW => ⟨⟨(), rfl, trivial, q_at e1 hP⟩, hS.F e1⟩) hS.2.2 dX9_happen_93
  have ht := it_n c11 ht
  refine lv_tableOut (tgt := 89) hx hb dX9_happen_7 (by have n0 := lv_neT c2 (show (0 : Int32).toInt = 0 by decide); have n1 := lv_neT c5 (show (1 : Int32).toInt = 1 by decide); have n2 := lv_neT c7 (show (2 : Int32).toInt = 2 by decide); have n3 := lv_neT c9 (show (3 : Int32).toInt = 3 by decide); have n4 := lv_neT c11 (show (4 : Int32).toInt = 4 by decide); omega) (by decide) ?_
  refine lv_aload_n hx hb dX9_happen_89 rfl (lv_at hl 0 rfl) ?_
  obtain ⟨q13, hq13, ht⟩ := it_b ht
  have hFc := q_freeW (hD T1) hS hA
  refine q_mv (va_runV (As := []) (rest := []) ⟨hx, hb, hml, hown, hts⟩ (kX9_passSecond l D cI cZ cO d0 H.size T1 q13 hq13) (cwV 0 hts gX9_happen_X9_passSecond rfl rfl rfl (by decide +kernel) ⟨Nat.le_of_ble_eq_true rfl, Nat.le_of_ble_eq_true rfl⟩) (q_mV (As := []) hE hP (hD T1) (q0 := 0) (ci := 9) rfl rfl) rfl rfl hl.1 rfl (lv_room (Nat.le_of_ble_eq_true rfl)) dX9_happen_90 ⟨Nat.le_of_ble_eq_true rfl, Nat.le_of_ble_eq_true rfl⟩) hS hFc (fun H locs hP1 hk hS => ?_)
  have hP : va_P D vwCl (wg9 cI cZ d0 q13) H := hP1
  obtain rfl := Option.some.inj ht
  exact W.vret hx hb hr (fun t e1 hW => ⟨⟨(), rfl, trivial, q_at e1 hP⟩, hS.F e1⟩) hS.2.2 dX9_happen_93
abbrev rmX9_carry : Room := { frames := 0, cells := 0, slots := 0, locals := 0 }
set_option maxHeartbeats 4000000 in
set_option maxRecDepth 100000 in
theorem kX9_carry (l : Launch) (D : va_G) (cI cZ cO : ClassId) (d0 : Nat → Nat) (sz : Nat) (S0 : St) (p0 : Int32) (tg : Int32 × St) (ht : xX9_carry p0 S0 = some tg) : Met l yX9_carry wsX9_carry rmX9_carry (q_PM D cI cZ cO [.ref (d0 0), .int p0] sz (wg9 cI cZ d0 S0)) (va_Qi (fun x (_ : Unit) => x = tg.1 ∧ True) (fun _ t => va_P D vwCl (wg9 cI cZ d0 tg.2) t.heap) (va_A (wg9 cI cZ d0 S0) sz)) 0 0 (va_A (wg9 cI cZ d0 S0) sz) := by
  refine Met.ofW (cc := cX9_carry) (maxL := 3) (ret := (some .int)) (by decide) rfl ?_
  intro p e s m args below meth c s₁ B hml hv
  obtain ⟨rfl, hsz, hE, hP, hD0⟩ := hv
  have hx := B.exec
  have hb := B.bytes
  have hr := B.returns
  have hts := atoms_spec (ws := wsX9_carry) B.pre
  have hown : s.vm.findClass RX9 = some m.cls := findClass_of_methodNamed B.named
  have hlocks := B.notSynchronized
  have hi9 : ∀ w ∈ u_ws RX9 TX9 37, w ∈ wsX9_carry := by decide +kernel
  have hw0 := hts (.fieldLink RX9 185 "HailNamesModel" "isBack" "Z") (by decide +kernel)
  have hw1 := hts (.fieldLink RX9 58 "HailNamesModel" "had" "[I") (by decide +kernel)
  have hw2 := hts (.fieldLink RX9 189 "HailNamesModel" "at" "I") (by decide +kernel)
  subst hsz
  have hD1 := hD0.self (sz := s.heap.size)
  generalize hAe : va_A (wg9 cI cZ d0 S0) s.heap.size = A at hD1 ⊢
  have hA : ∀ q : Nat, s.heap.size ≤ q → A q := fun q h => by rw [← hAe]; exact Or.inr h
  have hS : va_S A s.heap s.heap [] := va_S.rf
  have hD : ∀ (S0 : St), va_D A (wg9 cI cZ d0 S0) := fun S0 => q_D hD1 rfl
  have hl := lv_entry ([.ref (d0 0), .int p0]) (n := 3) (Nat.le_of_ble_eq_true rfl)
  rw [lg_entry_eq]
  generalize (lg_sl ([.ref (d0 0), .int p0]) ++ List.replicate (3 - (lg_sl ([.ref (d0 0), .int p0])).length) Slot.unset).toArray = ls at hl ⊢
  have hl : lv_has ls 3 [(0, .ref (d0 0)), (1, .int p0)] := hl
  have ht := (xX9_carry_s p0 S0).symm.trans ht
  obtain ⟨Q, hQ⟩ : ∃ Q, Q = MQ below (va_Qi (fun x (_ : Unit) => x = tg.1 ∧ True) (fun _ t => va_P D vwCl (wg9 cI cZ d0 tg.2) t.heap) A) ([.ref (d0 0), .int p0] : List Value).toArray s 0 0 A := ⟨_, rfl⟩
  rw [← hQ]
  have J20 : ∀ (z0 : Int32) (S0 : St) (H : Heap) (locs : List Loc) (_ : va_P D vwCl (wg9 cI cZ d0 S0) H) (_ : va_S A s.heap H locs) (ls : Array Slot) (_ : lv_has ls 3 [(0, .ref (d0 0))]) (_ : xX9_carry_h20 p0 z0 S0 = some tg), W p l e (headSpec wsX9_carry rmX9_carry).room s m ([.ref (d0 0), .int p0] : List Value).toArray below meth c H locs 0 0 Q (F0 m 20 ls [.int z0]) := by
    intro z0 S0 H locs hP hS ls hl ht
    have ht := (xX9_carry_h20_s p0 z0 S0).symm.trans ht
    refine lv_istore_n (lv' := [(2, .int z0), (0, .ref (d0 0))]) hx hb dX9_carry_20 rfl hl (by decide) rfl (fun ls hl => ?_)
    refine lv_aload_n hx hb dX9_carry_21 rfl (lv_at hl 1 rfl) ?_
    refine va_get (D := D) (ci := 9) (v := .ref (d0 24)) (C := RX9) (T := TX9) (N := 37) hx hb hts hi9 hown hE.1 hP 0 rfl rfl 23 (by decide) hw1 (fun _ h9 => h9) rfl dX9_carry_22 ?_
    refine lv_aload_n hx hb dX9_carry_25 rfl (lv_at hl 1 rfl) ?_
    refine va_get (D := D) (ci := 9) (v := .int (S0 24 0)) (C := RX9) (T := TX9) (N := 37) hx hb hts hi9 hown hE.1 hP 0 rfl rfl 24 (by decide) hw2 (fun _ h9 => h9) rfl dX9_carry_26 ?_
    refine lv_iload_n hx hb dX9_carry_29 rfl (lv_at hl 0 rfl) ?_
    obtain ⟨g3, ht⟩ := it_g ht
    refine va_iast hx hb hE.1 hP (hD _) hS 17 0 rfl rfl (q_in g3) dX9_carry_30 (fun H locs hP _ hS => ?_)
    have hP : va_P D vwCl (wg9 cI cZ d0 (q_su S0 23 ((S0 24 0).toNatClampNeg) z0)) H := hP
    obtain ⟨T4, eT4⟩ : ∃ z : St, z = q_su S0 23 ((S0 24 0).toNatClampNeg) z0 := ⟨_, rfl⟩
    rw [← eT4] at hP
    have ht := it_l ht eT4
    refine lv_aload_n hx hb dX9_carry_31 rfl (lv_at hl 1 rfl) ?_
    refine lv_dup hx hb dX9_carry_32 rfl ?_
    refine va_get (D := D) (ci := 9) (v := .int (T4 24 0)) (C := RX9) (T := TX9) (N := 37) hx hb hts hi9 hown hE.1 hP 0 rfl rfl 24 (by decide) hw2 (fun _ h9 => h9) rfl dX9_carry_33 ?_
    refine lv_iconst (v := 1) hx hb dX9_carry_36 (by decide) ?_
    refine lv_iadd hx hb dX9_carry_37 ?_
    refine va_put (D := D) (ci := 9) (v := .int ((T4 24 0) + 1)) (ty := .int) (C := RX9) (T := TX9) (N := 37) hx hb hts hi9 tyX9 tyX9_ok nmX9 hown hE.1 hP (hD _) hS 0 rfl rfl 24 (by decide) hw2 (fun _ h9 => h9) rfl (by decide +kernel) rfl rfl (Nat.le_of_ble_eq_true rfl) dX9_carry_38 (fun H locs hP _ hS => ?_)
    have hP : va_P D vwCl (wg9 cI cZ d0 (q_su T4 24 0 ((T4 24 0) + 1))) H := hP
    obtain ⟨T5, eT5⟩ : ∃ z : St, z = q_su T4 24 0 ((T4 24 0) + 1) := ⟨_, rfl⟩
    rw [← eT5] at hP
    have ht := it_l ht eT5
    refine lv_iload_n hx hb dX9_carry_41 rfl (lv_at hl 0 rfl) ?_
    subst hQ
    obtain rfl := Option.some.inj ht
    exact W.iret (v := z0) hx hb hr (fun t e1 hW => ⟨⟨_, (), rfl, ⟨rfl, trivial⟩, q_at e1 hP⟩, hS.F e1⟩) hS.2.2 dX9_carry_42
  refine lv_aload_n hx hb dX9_carry_0 rfl (lv_at hl 0 rfl) ?_
  refine va_get (D := D) (ci := 9) (v := .int (S0 25 0)) (C := RX9) (T := TX9) (N := 37) hx hb hts hi9 hown hE.1 hP 0 rfl rfl 25 (by decide) hw0 (fun _ h9 => h9) rfl dX9_carry_1 ?_
  refine lv_if_eq (tgt := 19) hx hb dX9_carry_4 (by decide) (fun c1 => ?_) (fun c1 => ?_)
  · have ht := it_p c1 ht
    refine lv_iload_n hx hb dX9_carry_19 rfl (lv_at hl 1 rfl) ?_
    exact J20 p0 S0 _ _ hP hS ls (lv_sub hl [0] rfl) ht
  · have ht := it_n c1 ht
    refine lv_aload_n hx hb dX9_carry_7 rfl (lv_at hl 0 rfl) ?_
    refine va_get (D := D) (ci := 9) (v := .ref (d0 24)) (C := RX9) (T := TX9) (N := 37) hx hb hts hi9 hown hE.1 hP 0 rfl rfl 23 (by decide) hw1 (fun _ h9 => h9) rfl dX9_carry_8 ?_
    refine lv_aload_n hx hb dX9_carry_11 rfl (lv_at hl 0 rfl) ?_
    refine va_get (D := D) (ci := 9) (v := .int (S0 24 0)) (C := RX9) (T := TX9) (N := 37) hx hb hts hi9 hown hE.1 hP 0 rfl rfl 24 (by decide) hw2 (fun _ h9 => h9) rfl dX9_carry_12 ?_
    obtain ⟨g2, ht⟩ := it_g ht
    refine va_iald hx hb hE.1 hP 17 0 rfl rfl (q_in g2) dX9_carry_15 ?_
    refine lv_goto (tgt := 20) hx hb dX9_carry_16 (by decide) ?_
    exact J20 (S0 23 (S0 24 0).toNatClampNeg) S0 _ _ hP hS ls (lv_sub hl [0] rfl) ht
abbrev rmX9_carryRow_r0 : Room := { frames := 1, cells := 0, slots := 0, locals := 22 }
set_option maxHeartbeats 4000000 in
set_option maxRecDepth 100000 in
theorem kX9_carryRow_r0 (l : Launch) (D : va_G) (cI cZ cO : ClassId) (d0 : Nat → Nat) (sz : Nat) (S0 : St) (p1 : Int32) (tg : St) (ht : xX9_carryRow 0 8 p1 S0 = some tg) : Met l yX9_carryRow wsX9_carryRow rmX9_carryRow_r0 (q_PM D cI cZ cO [.ref (d0 0), .ref (d0 1), .int p1] sz (wg9 cI cZ d0 S0)) (va_Qv (fun _ : Unit => True) (fun _ t => va_P D vwCl (wg9 cI cZ d0 tg) t.heap) (va_A (wg9 cI cZ d0 S0) sz)) 0 0 (va_A (wg9 cI cZ d0 S0) sz) := by
  refine Met.ofW (cc := cX9_carryRow) (maxL := 4) (ret := none) (by decide) rfl ?_
  intro p e s m args below meth c s₁ B hml hv
  obtain ⟨rfl, hsz, hE, hP, hD0⟩ := hv
  have hx := B.exec
  have hb := B.bytes
  have hr := B.returns
  have hts := atoms_spec (ws := wsX9_carryRow) B.pre
  have hown : s.vm.findClass RX9 = some m.cls := findClass_of_methodNamed B.named
  have hlocks := B.notSynchronized
  subst hsz
  have hD1 := hD0.self (sz := s.heap.size)
  generalize hAe : va_A (wg9 cI cZ d0 S0) s.heap.size = A at hD1 ⊢
  have hA : ∀ q : Nat, s.heap.size ≤ q → A q := fun q h => by rw [← hAe]; exact Or.inr h
  have hS : va_S A s.heap s.heap [] := va_S.rf
  have hD : ∀ (S0 : St), va_D A (wg9 cI cZ d0 S0) := fun S0 => q_D hD1 rfl
  have hl := lv_entry ([.ref (d0 0), .ref (d0 1), .int p1]) (n := 4) (Nat.le_of_ble_eq_true rfl)
  rw [lg_entry_eq]
  generalize (lg_sl ([.ref (d0 0), .ref (d0 1), .int p1]) ++ List.replicate (4 - (lg_sl ([.ref (d0 0), .ref (d0 1), .int p1])).length) Slot.unset).toArray = ls at hl ⊢
  have hl : lv_has ls 4 [(0, .ref (d0 0)), (1, .ref (d0 1)), (2, .int p1)] := hl
  have ht := (xX9_carryRow_s 0 8 p1 S0).symm.trans ht
  obtain ⟨Q, hQ⟩ : ∃ Q, Q = MQ below (va_Qv (fun _ : Unit => True) (fun _ t => va_P D vwCl (wg9 cI cZ d0 tg) t.heap) A) ([.ref (d0 0), .ref (d0 1), .int p1] : List Value).toArray s 0 0 A := ⟨_, rfl⟩
  rw [← hQ]
  have L2 : ∀ (n : Nat) (x3 : Int32) (S0 : St) (H : Heap) (locs : List Loc) (_ : va_P D vwCl (wg9 cI cZ d0 S0) H) (_ : va_S A s.heap H locs) (ls : Array Slot) (_ : lv_has ls 4 [(0, .ref (d0 0)), (1, .ref (d0 1)), (2, .int p1), (3, .int x3)]) (_ : xX9_carryRow_h2 0 8 p1 n x3 S0 = some tg), W p l e (headSpec wsX9_carryRow rmX9_carryRow_r0).room s m ([.ref (d0 0), .ref (d0 1), .int p1] : List Value).toArray below meth c H locs 0 0 Q (F0 m 2 ls []) := by
    intro n
    induction n with
    | zero =>
      intro x3 S0 H locs hP hS ls hl ht
      exact it_z ht
    | succ n2 ih2 =>
      intro x3 S0 H locs hP hS ls hl ht
      have ht := (xX9_carryRow_h2_s 0 8 p1 n2 x3 S0).symm.trans ht
      refine lv_iload_n hx hb dX9_carryRow_2 rfl (lv_at hl 3 rfl) ?_
      refine lv_iload_n hx hb dX9_carryRow_3 rfl (lv_at hl 2 rfl) ?_
      refine lv_icmp_ge (tgt := 23) hx hb dX9_carryRow_4 (by decide) (fun c1 => ?_) (fun c1 => ?_)
      · have ht := it_p c1 ht
        subst hQ
        obtain rfl := Option.some.inj ht
        exact W.vret hx hb hr (fun t e1 hW => ⟨⟨(), rfl, trivial, q_at e1 hP⟩, hS.F e1⟩) hS.2.2 dX9_carryRow_23
      · have ht := it_n c1 ht
        refine lv_aload_n hx hb dX9_carryRow_7 rfl (lv_at hl 1 rfl) ?_
        refine lv_iload_n hx hb dX9_carryRow_8 rfl (lv_at hl 3 rfl) ?_
        refine lv_aload_n hx hb dX9_carryRow_9 rfl (lv_at hl 0 rfl) ?_
        refine lv_aload_n hx hb dX9_carryRow_10 rfl (lv_at hl 1 rfl) ?_
        refine lv_iload_n hx hb dX9_carryRow_11 rfl (lv_at hl 3 rfl) ?_
        obtain ⟨g2, ht⟩ := it_g ht
        refine va_iald hx hb hE.1 hP 1 0 rfl rfl (q_in g2) dX9_carryRow_12 ?_
        obtain ⟨q3, hq3, ht⟩ := it_b ht
        have hFc := q_freeW (hD S0) hS hA
        refine q_mi (va_runV (As := [.int (S0 0 x3.toNatClampNeg)]) (rest := [.int x3, .ref (d0 1)]) ⟨hx, hb, hml, hown, hts⟩ (kX9_carry l D cI cZ cO d0 H.size S0 (S0 0 x3.toNatClampNeg) q3 hq3) (cwV 1 hts gX9_carryRow_X9_carry rfl rfl rfl (by decide +kernel) ⟨Nat.le_of_ble_eq_true rfl, Nat.le_of_ble_eq_true rfl⟩) (q_mV (As := [.int (S0 0 x3.toNatClampNeg)]) hE hP (hD S0) (q0 := 0) (ci := 9) rfl rfl) rfl rfl hl.1 rfl (lv_room (Nat.le_of_ble_eq_true rfl)) dX9_carryRow_13 ⟨Nat.le_of_ble_eq_true rfl, Nat.le_of_ble_eq_true rfl⟩) hS hFc (fun H locs b4 hP1 hk hS => ?_)
        have hP : va_P D vwCl (wg9 cI cZ d0 q3.2) H := hP1
        refine va_iast hx hb hE.1 hP (hD _) hS 1 0 rfl rfl (q_in g2) dX9_carryRow_16 (fun H locs hP _ hS => ?_)
        have hP : va_P D vwCl (wg9 cI cZ d0 (q_su q3.2 0 x3.toNatClampNeg q3.1)) H := hP
        obtain ⟨T5, eT5⟩ : ∃ z : St, z = q_su q3.2 0 x3.toNatClampNeg q3.1 := ⟨_, rfl⟩
        rw [← eT5] at hP
        have ht := it_l ht eT5
        refine lv_iinc (v := x3 + 1) (lv' := [(3, .int (x3 + 1)), (0, .ref (d0 0)), (1, .ref (d0 1)), (2, .int p1)]) hx hb dX9_carryRow_17 hl (k := 3) rfl rfl (by decide) rfl (fun ls hl => ?_)
        refine lv_goto (tgt := 2) hx hb dX9_carryRow_20 (by decide) ?_
        exact ih2 (x3 + 1) T5 _ _ hP hS ls (lv_sub hl [1, 2, 3, 0] rfl) ht
  refine lv_iconst (v := 0) hx hb dX9_carryRow_0 (by decide) ?_
  refine lv_istore_n (lv' := [(3, .int 0), (0, .ref (d0 0)), (1, .ref (d0 1)), (2, .int p1)]) hx hb dX9_carryRow_1 rfl hl (by decide) rfl (fun ls hl => ?_)
  exact L2 5000 0 S0 _ _ hP hS ls (lv_sub hl [1, 2, 3, 0] rfl) ht
abbrev rmX9_carryRow_r1 : Room := { frames := 1, cells := 0, slots := 0, locals := 22 }
set_option maxHeartbeats 4000000 in
set_option maxRecDepth 100000 in
theorem kX9_carryRow_r1 (l : Launch) (D : va_G) (cI cZ cO : ClassId) (d0 : Nat → Nat) (sz : Nat) (S0 : St) (p1 : Int32) (tg : St) (ht : xX9_carryRow 1 8 p1 S0 = some tg) : Met l yX9_carryRow wsX9_carryRow rmX9_carryRow_r1 (q_PM D cI cZ cO [.ref (d0 0), .ref (d0 2), .int p1] sz (wg9 cI cZ d0 S0)) (va_Qv (fun _ : Unit => True) (fun _ t => va_P D vwCl (wg9 cI cZ d0 tg) t.heap) (va_A (wg9 cI cZ d0 S0) sz)) 0 0 (va_A (wg9 cI cZ d0 S0) sz) := by
  refine Met.ofW (cc := cX9_carryRow) (maxL := 4) (ret := none) (by decide) rfl ?_
  intro p e s m args below meth c s₁ B hml hv
  obtain ⟨rfl, hsz, hE, hP, hD0⟩ := hv
  have hx := B.exec
  have hb := B.bytes
  have hr := B.returns
  have hts := atoms_spec (ws := wsX9_carryRow) B.pre
  have hown : s.vm.findClass RX9 = some m.cls := findClass_of_methodNamed B.named
  have hlocks := B.notSynchronized
  subst hsz
  have hD1 := hD0.self (sz := s.heap.size)
  generalize hAe : va_A (wg9 cI cZ d0 S0) s.heap.size = A at hD1 ⊢
  have hA : ∀ q : Nat, s.heap.size ≤ q → A q := fun q h => by rw [← hAe]; exact Or.inr h
  have hS : va_S A s.heap s.heap [] := va_S.rf
  have hD : ∀ (S0 : St), va_D A (wg9 cI cZ d0 S0) := fun S0 => q_D hD1 rfl
  have hl := lv_entry ([.ref (d0 0), .ref (d0 2), .int p1]) (n := 4) (Nat.le_of_ble_eq_true rfl)
  rw [lg_entry_eq]
  generalize (lg_sl ([.ref (d0 0), .ref (d0 2), .int p1]) ++ List.replicate (4 - (lg_sl ([.ref (d0 0), .ref (d0 2), .int p1])).length) Slot.unset).toArray = ls at hl ⊢
  have hl : lv_has ls 4 [(0, .ref (d0 0)), (1, .ref (d0 2)), (2, .int p1)] := hl
  have ht := (xX9_carryRow_s 1 8 p1 S0).symm.trans ht
  obtain ⟨Q, hQ⟩ : ∃ Q, Q = MQ below (va_Qv (fun _ : Unit => True) (fun _ t => va_P D vwCl (wg9 cI cZ d0 tg) t.heap) A) ([.ref (d0 0), .ref (d0 2), .int p1] : List Value).toArray s 0 0 A := ⟨_, rfl⟩
  rw [← hQ]
  have L2 : ∀ (n : Nat) (x3 : Int32) (S0 : St) (H : Heap) (locs : List Loc) (_ : va_P D vwCl (wg9 cI cZ d0 S0) H) (_ : va_S A s.heap H locs) (ls : Array Slot) (_ : lv_has ls 4 [(0, .ref (d0 0)), (1, .ref (d0 2)), (2, .int p1), (3, .int x3)]) (_ : xX9_carryRow_h2 1 8 p1 n x3 S0 = some tg), W p l e (headSpec wsX9_carryRow rmX9_carryRow_r1).room s m ([.ref (d0 0), .ref (d0 2), .int p1] : List Value).toArray below meth c H locs 0 0 Q (F0 m 2 ls []) := by
    intro n
    induction n with
    | zero =>
      intro x3 S0 H locs hP hS ls hl ht
      exact it_z ht
    | succ n2 ih2 =>
      intro x3 S0 H locs hP hS ls hl ht
      have ht := (xX9_carryRow_h2_s 1 8 p1 n2 x3 S0).symm.trans ht
      refine lv_iload_n hx hb dX9_carryRow_2 rfl (lv_at hl 3 rfl) ?_
      refine lv_iload_n hx hb dX9_carryRow_3 rfl (lv_at hl 2 rfl) ?_
      refine lv_icmp_ge (tgt := 23) hx hb dX9_carryRow_4 (by decide) (fun c1 => ?_) (fun c1 => ?_)
      · have ht := it_p c1 ht
        subst hQ
        obtain rfl := Option.some.inj ht
        exact W.vret hx hb hr (fun t e1 hW => ⟨⟨(), rfl, trivial, q_at e1 hP⟩, hS.F e1⟩) hS.2.2 dX9_carryRow_23
      · have ht := it_n c1 ht
        refine lv_aload_n hx hb dX9_carryRow_7 rfl (lv_at hl 1 rfl) ?_
        refine lv_iload_n hx hb dX9_carryRow_8 rfl (lv_at hl 3 rfl) ?_
        refine lv_aload_n hx hb dX9_carryRow_9 rfl (lv_at hl 0 rfl) ?_
        refine lv_aload_n hx hb dX9_carryRow_10 rfl (lv_at hl 1 rfl) ?_
        refine lv_iload_n hx hb dX9_carryRow_11 rfl (lv_at hl 3 rfl) ?_
        obtain ⟨g2, ht⟩ := it_g ht
        refine va_iald hx hb hE.1 hP 2 0 rfl rfl (q_in g2) dX9_carryRow_12 ?_
        obtain ⟨q3, hq3, ht⟩ := it_b ht
        have hFc := q_freeW (hD S0) hS hA
        refine q_mi (va_runV (As := [.int (S0 1 x3.toNatClampNeg)]) (rest := [.int x3, .ref (d0 2)]) ⟨hx, hb, hml, hown, hts⟩ (kX9_carry l D cI cZ cO d0 H.size S0 (S0 1 x3.toNatClampNeg) q3 hq3) (cwV 1 hts gX9_carryRow_X9_carry rfl rfl rfl (by decide +kernel) ⟨Nat.le_of_ble_eq_true rfl, Nat.le_of_ble_eq_true rfl⟩) (q_mV (As := [.int (S0 1 x3.toNatClampNeg)]) hE hP (hD S0) (q0 := 0) (ci := 9) rfl rfl) rfl rfl hl.1 rfl (lv_room (Nat.le_of_ble_eq_true rfl)) dX9_carryRow_13 ⟨Nat.le_of_ble_eq_true rfl, Nat.le_of_ble_eq_true rfl⟩) hS hFc (fun H locs b4 hP1 hk hS => ?_)
        have hP : va_P D vwCl (wg9 cI cZ d0 q3.2) H := hP1
        refine va_iast hx hb hE.1 hP (hD _) hS 2 0 rfl rfl (q_in g2) dX9_carryRow_16 (fun H locs hP _ hS => ?_)
        have hP : va_P D vwCl (wg9 cI cZ d0 (q_su q3.2 1 x3.toNatClampNeg q3.1)) H := hP
        obtain ⟨T5, eT5⟩ : ∃ z : St, z = q_su q3.2 1 x3.toNatClampNeg q3.1 := ⟨_, rfl⟩
        rw [← eT5] at hP
        have ht := it_l ht eT5
        refine lv_iinc (v := x3 + 1) (lv' := [(3, .int (x3 + 1)), (0, .ref (d0 0)), (1, .ref (d0 2)), (2, .int p1)]) hx hb dX9_carryRow_17 hl (k := 3) rfl rfl (by decide) rfl (fun ls hl => ?_)
        refine lv_goto (tgt := 2) hx hb dX9_carryRow_20 (by decide) ?_
        exact ih2 (x3 + 1) T5 _ _ hP hS ls (lv_sub hl [1, 2, 3, 0] rfl) ht
  refine lv_iconst (v := 0) hx hb dX9_carryRow_0 (by decide) ?_
  refine lv_istore_n (lv' := [(3, .int 0), (0, .ref (d0 0)), (1, .ref (d0 2)), (2, .int p1)]) hx hb dX9_carryRow_1 rfl hl (by decide) rfl (fun ls hl => ?_)
  exact L2 5000 0 S0 _ _ hP hS ls (lv_sub hl [1, 2, 3, 0] rfl) ht
abbrev rmX9_carryRow_r2 : Room := { frames := 1, cells := 0, slots := 0, locals := 22 }
set_option maxHeartbeats 4000000 in
set_option maxRecDepth 100000 in
theorem kX9_carryRow_r2 (l : Launch) (D : va_G) (cI cZ cO : ClassId) (d0 : Nat → Nat) (sz : Nat) (S0 : St) (p1 : Int32) (tg : St) (ht : xX9_carryRow 2 8 p1 S0 = some tg) : Met l yX9_carryRow wsX9_carryRow rmX9_carryRow_r2 (q_PM D cI cZ cO [.ref (d0 0), .ref (d0 3), .int p1] sz (wg9 cI cZ d0 S0)) (va_Qv (fun _ : Unit => True) (fun _ t => va_P D vwCl (wg9 cI cZ d0 tg) t.heap) (va_A (wg9 cI cZ d0 S0) sz)) 0 0 (va_A (wg9 cI cZ d0 S0) sz) := by
  refine Met.ofW (cc := cX9_carryRow) (maxL := 4) (ret := none) (by decide) rfl ?_
  intro p e s m args below meth c s₁ B hml hv
  obtain ⟨rfl, hsz, hE, hP, hD0⟩ := hv
  have hx := B.exec
  have hb := B.bytes
  have hr := B.returns
  have hts := atoms_spec (ws := wsX9_carryRow) B.pre
  have hown : s.vm.findClass RX9 = some m.cls := findClass_of_methodNamed B.named
  have hlocks := B.notSynchronized
  subst hsz
  have hD1 := hD0.self (sz := s.heap.size)
  generalize hAe : va_A (wg9 cI cZ d0 S0) s.heap.size = A at hD1 ⊢
  have hA : ∀ q : Nat, s.heap.size ≤ q → A q := fun q h => by rw [← hAe]; exact Or.inr h
  have hS : va_S A s.heap s.heap [] := va_S.rf
  have hD : ∀ (S0 : St), va_D A (wg9 cI cZ d0 S0) := fun S0 => q_D hD1 rfl
  have hl := lv_entry ([.ref (d0 0), .ref (d0 3), .int p1]) (n := 4) (Nat.le_of_ble_eq_true rfl)
  rw [lg_entry_eq]
  generalize (lg_sl ([.ref (d0 0), .ref (d0 3), .int p1]) ++ List.replicate (4 - (lg_sl ([.ref (d0 0), .ref (d0 3), .int p1])).length) Slot.unset).toArray = ls at hl ⊢
  have hl : lv_has ls 4 [(0, .ref (d0 0)), (1, .ref (d0 3)), (2, .int p1)] := hl
  have ht := (xX9_carryRow_s 2 8 p1 S0).symm.trans ht
  obtain ⟨Q, hQ⟩ : ∃ Q, Q = MQ below (va_Qv (fun _ : Unit => True) (fun _ t => va_P D vwCl (wg9 cI cZ d0 tg) t.heap) A) ([.ref (d0 0), .ref (d0 3), .int p1] : List Value).toArray s 0 0 A := ⟨_, rfl⟩
  rw [← hQ]
  have L2 : ∀ (n : Nat) (x3 : Int32) (S0 : St) (H : Heap) (locs : List Loc) (_ : va_P D vwCl (wg9 cI cZ d0 S0) H) (_ : va_S A s.heap H locs) (ls : Array Slot) (_ : lv_has ls 4 [(0, .ref (d0 0)), (1, .ref (d0 3)), (2, .int p1), (3, .int x3)]) (_ : xX9_carryRow_h2 2 8 p1 n x3 S0 = some tg), W p l e (headSpec wsX9_carryRow rmX9_carryRow_r2).room s m ([.ref (d0 0), .ref (d0 3), .int p1] : List Value).toArray below meth c H locs 0 0 Q (F0 m 2 ls []) := by
    intro n
    induction n with
    | zero =>
      intro x3 S0 H locs hP hS ls hl ht
      exact it_z ht
    | succ n2 ih2 =>
      intro x3 S0 H locs hP hS ls hl ht
      have ht := (xX9_carryRow_h2_s 2 8 p1 n2 x3 S0).symm.trans ht
      refine lv_iload_n hx hb dX9_carryRow_2 rfl (lv_at hl 3 rfl) ?_
      refine lv_iload_n hx hb dX9_carryRow_3 rfl (lv_at hl 2 rfl) ?_
      refine lv_icmp_ge (tgt := 23) hx hb dX9_carryRow_4 (by decide) (fun c1 => ?_) (fun c1 => ?_)
      · have ht := it_p c1 ht
        subst hQ
        obtain rfl := Option.some.inj ht
        exact W.vret hx hb hr (fun t e1 hW => ⟨⟨(), rfl, trivial, q_at e1 hP⟩, hS.F e1⟩) hS.2.2 dX9_carryRow_23
      · have ht := it_n c1 ht
        refine lv_aload_n hx hb dX9_carryRow_7 rfl (lv_at hl 1 rfl) ?_
        refine lv_iload_n hx hb dX9_carryRow_8 rfl (lv_at hl 3 rfl) ?_
        refine lv_aload_n hx hb dX9_carryRow_9 rfl (lv_at hl 0 rfl) ?_
        refine lv_aload_n hx hb dX9_carryRow_10 rfl (lv_at hl 1 rfl) ?_
        refine lv_iload_n hx hb dX9_carryRow_11 rfl (lv_at hl 3 rfl) ?_
        obtain ⟨g2, ht⟩ := it_g ht
        refine va_iald hx hb hE.1 hP 3 0 rfl rfl (q_in g2) dX9_carryRow_12 ?_
        obtain ⟨q3, hq3, ht⟩ := it_b ht
        have hFc := q_freeW (hD S0) hS hA
        refine q_mi (va_runV (As := [.int (S0 2 x3.toNatClampNeg)]) (rest := [.int x3, .ref (d0 3)]) ⟨hx, hb, hml, hown, hts⟩ (kX9_carry l D cI cZ cO d0 H.size S0 (S0 2 x3.toNatClampNeg) q3 hq3) (cwV 1 hts gX9_carryRow_X9_carry rfl rfl rfl (by decide +kernel) ⟨Nat.le_of_ble_eq_true rfl, Nat.le_of_ble_eq_true rfl⟩) (q_mV (As := [.int (S0 2 x3.toNatClampNeg)]) hE hP (hD S0) (q0 := 0) (ci := 9) rfl rfl) rfl rfl hl.1 rfl (lv_room (Nat.le_of_ble_eq_true rfl)) dX9_carryRow_13 ⟨Nat.le_of_ble_eq_true rfl, Nat.le_of_ble_eq_true rfl⟩) hS hFc (fun H locs b4 hP1 hk hS => ?_)
        have hP : va_P D vwCl (wg9 cI cZ d0 q3.2) H := hP1
        refine va_iast hx hb hE.1 hP (hD _) hS 3 0 rfl rfl (q_in g2) dX9_carryRow_16 (fun H locs hP _ hS => ?_)
        have hP : va_P D vwCl (wg9 cI cZ d0 (q_su q3.2 2 x3.toNatClampNeg q3.1)) H := hP
        obtain ⟨T5, eT5⟩ : ∃ z : St, z = q_su q3.2 2 x3.toNatClampNeg q3.1 := ⟨_, rfl⟩
        rw [← eT5] at hP
        have ht := it_l ht eT5
        refine lv_iinc (v := x3 + 1) (lv' := [(3, .int (x3 + 1)), (0, .ref (d0 0)), (1, .ref (d0 3)), (2, .int p1)]) hx hb dX9_carryRow_17 hl (k := 3) rfl rfl (by decide) rfl (fun ls hl => ?_)
        refine lv_goto (tgt := 2) hx hb dX9_carryRow_20 (by decide) ?_
        exact ih2 (x3 + 1) T5 _ _ hP hS ls (lv_sub hl [1, 2, 3, 0] rfl) ht
  refine lv_iconst (v := 0) hx hb dX9_carryRow_0 (by decide) ?_
  refine lv_istore_n (lv' := [(3, .int 0), (0, .ref (d0 0)), (1, .ref (d0 3)), (2, .int p1)]) hx hb dX9_carryRow_1 rfl hl (by decide) rfl (fun ls hl => ?_)
  exact L2 5000 0 S0 _ _ hP hS ls (lv_sub hl [1, 2, 3, 0] rfl) ht
abbrev rmX9_carryRow_r3 : Room := { frames := 1, cells := 0, slots := 0, locals := 22 }
set_option maxHeartbeats 4000000 in
set_option maxRecDepth 100000 in
theorem kX9_carryRow_r3 (l : Launch) (D : va_G) (cI cZ cO : ClassId) (d0 : Nat → Nat) (sz : Nat) (S0 : St) (p1 : Int32) (tg : St) (ht : xX9_carryRow 3 8 p1 S0 = some tg) : Met l yX9_carryRow wsX9_carryRow rmX9_carryRow_r3 (q_PM D cI cZ cO [.ref (d0 0), .ref (d0 4), .int p1] sz (wg9 cI cZ d0 S0)) (va_Qv (fun _ : Unit => True) (fun _ t => va_P D vwCl (wg9 cI cZ d0 tg) t.heap) (va_A (wg9 cI cZ d0 S0) sz)) 0 0 (va_A (wg9 cI cZ d0 S0) sz) := by
  refine Met.ofW (cc := cX9_carryRow) (maxL := 4) (ret := none) (by decide) rfl ?_
  intro p e s m args below meth c s₁ B hml hv
  obtain ⟨rfl, hsz, hE, hP, hD0⟩ := hv
  have hx := B.exec
  have hb := B.bytes
  have hr := B.returns
  have hts := atoms_spec (ws := wsX9_carryRow) B.pre
  have hown : s.vm.findClass RX9 = some m.cls := findClass_of_methodNamed B.named
  have hlocks := B.notSynchronized
  subst hsz
  have hD1 := hD0.self (sz := s.heap.size)
  generalize hAe : va_A (wg9 cI cZ d0 S0) s.heap.size = A at hD1 ⊢
  have hA : ∀ q : Nat, s.heap.size ≤ q → A q := fun q h => by rw [← hAe]; exact Or.inr h
  have hS : va_S A s.heap s.heap [] := va_S.rf
  have hD : ∀ (S0 : St), va_D A (wg9 cI cZ d0 S0) := fun S0 => q_D hD1 rfl
  have hl := lv_entry ([.ref (d0 0), .ref (d0 4), .int p1]) (n := 4) (Nat.le_of_ble_eq_true rfl)
  rw [lg_entry_eq]
  generalize (lg_sl ([.ref (d0 0), .ref (d0 4), .int p1]) ++ List.replicate (4 - (lg_sl ([.ref (d0 0), .ref (d0 4), .int p1])).length) Slot.unset).toArray = ls at hl ⊢
  have hl : lv_has ls 4 [(0, .ref (d0 0)), (1, .ref (d0 4)), (2, .int p1)] := hl
  have ht := (xX9_carryRow_s 3 8 p1 S0).symm.trans ht
  obtain ⟨Q, hQ⟩ : ∃ Q, Q = MQ below (va_Qv (fun _ : Unit => True) (fun _ t => va_P D vwCl (wg9 cI cZ d0 tg) t.heap) A) ([.ref (d0 0), .ref (d0 4), .int p1] : List Value).toArray s 0 0 A := ⟨_, rfl⟩
  rw [← hQ]
  have L2 : ∀ (n : Nat) (x3 : Int32) (S0 : St) (H : Heap) (locs : List Loc) (_ : va_P D vwCl (wg9 cI cZ d0 S0) H) (_ : va_S A s.heap H locs) (ls : Array Slot) (_ : lv_has ls 4 [(0, .ref (d0 0)), (1, .ref (d0 4)), (2, .int p1), (3, .int x3)]) (_ : xX9_carryRow_h2 3 8 p1 n x3 S0 = some tg), W p l e (headSpec wsX9_carryRow rmX9_carryRow_r3).room s m ([.ref (d0 0), .ref (d0 4), .int p1] : List Value).toArray below meth c H locs 0 0 Q (F0 m 2 ls []) := by
    intro n
    induction n with
    | zero =>
      intro x3 S0 H locs hP hS ls hl ht
      exact it_z ht
    | succ n2 ih2 =>
      intro x3 S0 H locs hP hS ls hl ht
      have ht := (xX9_carryRow_h2_s 3 8 p1 n2 x3 S0).symm.trans ht
      refine lv_iload_n hx hb dX9_carryRow_2 rfl (lv_at hl 3 rfl) ?_
      refine lv_iload_n hx hb dX9_carryRow_3 rfl (lv_at hl 2 rfl) ?_
      refine lv_icmp_ge (tgt := 23) hx hb dX9_carryRow_4 (by decide) (fun c1 => ?_) (fun c1 => ?_)
      · have ht := it_p c1 ht
        subst hQ
        obtain rfl := Option.some.inj ht
        exact W.vret hx hb hr (fun t e1 hW => ⟨⟨(), rfl, trivial, q_at e1 hP⟩, hS.F e1⟩) hS.2.2 dX9_carryRow_23
      · have ht := it_n c1 ht
        refine lv_aload_n hx hb dX9_carryRow_7 rfl (lv_at hl 1 rfl) ?_
        refine lv_iload_n hx hb dX9_carryRow_8 rfl (lv_at hl 3 rfl) ?_
        refine lv_aload_n hx hb dX9_carryRow_9 rfl (lv_at hl 0 rfl) ?_
        refine lv_aload_n hx hb dX9_carryRow_10 rfl (lv_at hl 1 rfl) ?_
        refine lv_iload_n hx hb dX9_carryRow_11 rfl (lv_at hl 3 rfl) ?_
        obtain ⟨g2, ht⟩ := it_g ht
        refine va_iald hx hb hE.1 hP 4 0 rfl rfl (q_in g2) dX9_carryRow_12 ?_
        obtain ⟨q3, hq3, ht⟩ := it_b ht
        have hFc := q_freeW (hD S0) hS hA
        refine q_mi (va_runV (As := [.int (S0 3 x3.toNatClampNeg)]) (rest := [.int x3, .ref (d0 4)]) ⟨hx, hb, hml, hown, hts⟩ (kX9_carry l D cI cZ cO d0 H.size S0 (S0 3 x3.toNatClampNeg) q3 hq3) (cwV 1 hts gX9_carryRow_X9_carry rfl rfl rfl (by decide +kernel) ⟨Nat.le_of_ble_eq_true rfl, Nat.le_of_ble_eq_true rfl⟩) (q_mV (As := [.int (S0 3 x3.toNatClampNeg)]) hE hP (hD S0) (q0 := 0) (ci := 9) rfl rfl) rfl rfl hl.1 rfl (lv_room (Nat.le_of_ble_eq_true rfl)) dX9_carryRow_13 ⟨Nat.le_of_ble_eq_true rfl, Nat.le_of_ble_eq_true rfl⟩) hS hFc (fun H locs b4 hP1 hk hS => ?_)
        have hP : va_P D vwCl (wg9 cI cZ d0 q3.2) H := hP1
        refine va_iast hx hb hE.1 hP (hD _) hS 4 0 rfl rfl (q_in g2) dX9_carryRow_16 (fun H locs hP _ hS => ?_)
        have hP : va_P D vwCl (wg9 cI cZ d0 (q_su q3.2 3 x3.toNatClampNeg q3.1)) H := hP
        obtain ⟨T5, eT5⟩ : ∃ z : St, z = q_su q3.2 3 x3.toNatClampNeg q3.1 := ⟨_, rfl⟩
        rw [← eT5] at hP
        have ht := it_l ht eT5
        refine lv_iinc (v := x3 + 1) (lv' := [(3, .int (x3 + 1)), (0, .ref (d0 0)), (1, .ref (d0 4)), (2, .int p1)]) hx hb dX9_carryRow_17 hl (k := 3) rfl rfl (by decide) rfl (fun ls hl => ?_)
        refine lv_goto (tgt := 2) hx hb dX9_carryRow_20 (by decide) ?_
        exact ih2 (x3 + 1) T5 _ _ hP hS ls (lv_sub hl [1, 2, 3, 0] rfl) ht
  refine lv_iconst (v := 0) hx hb dX9_carryRow_0 (by decide) ?_
  refine lv_istore_n (lv' := [(3, .int 0), (0, .ref (d0 0)), (1, .ref (d0 4)), (2, .int p1)]) hx hb dX9_carryRow_1 rfl hl (by decide) rfl (fun ls hl => ?_)
  exact L2 5000 0 S0 _ _ hP hS ls (lv_sub hl [1, 2, 3, 0] rfl) ht
abbrev rmX9_carryRow_r4 : Room := { frames := 1, cells := 0, slots := 0, locals := 22 }
set_option maxHeartbeats 4000000 in
set_option maxRecDepth 100000 in
theorem kX9_carryRow_r4 (l : Launch) (D : va_G) (cI cZ cO : ClassId) (d0 : Nat → Nat) (sz : Nat) (S0 : St) (p1 : Int32) (tg : St) (ht : xX9_carryRow 4 8 p1 S0 = some tg) : Met l yX9_carryRow wsX9_carryRow rmX9_carryRow_r4 (q_PM D cI cZ cO [.ref (d0 0), .ref (d0 5), .int p1] sz (wg9 cI cZ d0 S0)) (va_Qv (fun _ : Unit => True) (fun _ t => va_P D vwCl (wg9 cI cZ d0 tg) t.heap) (va_A (wg9 cI cZ d0 S0) sz)) 0 0 (va_A (wg9 cI cZ d0 S0) sz) := by
  refine Met.ofW (cc := cX9_carryRow) (maxL := 4) (ret := none) (by decide) rfl ?_
  intro p e s m args below meth c s₁ B hml hv
  obtain ⟨rfl, hsz, hE, hP, hD0⟩ := hv
  have hx := B.exec
  have hb := B.bytes
  have hr := B.returns
  have hts := atoms_spec (ws := wsX9_carryRow) B.pre
  have hown : s.vm.findClass RX9 = some m.cls := findClass_of_methodNamed B.named
  have hlocks := B.notSynchronized
  subst hsz
  have hD1 := hD0.self (sz := s.heap.size)
  generalize hAe : va_A (wg9 cI cZ d0 S0) s.heap.size = A at hD1 ⊢
  have hA : ∀ q : Nat, s.heap.size ≤ q → A q := fun q h => by rw [← hAe]; exact Or.inr h
  have hS : va_S A s.heap s.heap [] := va_S.rf
  have hD : ∀ (S0 : St), va_D A (wg9 cI cZ d0 S0) := fun S0 => q_D hD1 rfl
  have hl := lv_entry ([.ref (d0 0), .ref (d0 5), .int p1]) (n := 4) (Nat.le_of_ble_eq_true rfl)
  rw [lg_entry_eq]
  generalize (lg_sl ([.ref (d0 0), .ref (d0 5), .int p1]) ++ List.replicate (4 - (lg_sl ([.ref (d0 0), .ref (d0 5), .int p1])).length) Slot.unset).toArray = ls at hl ⊢
  have hl : lv_has ls 4 [(0, .ref (d0 0)), (1, .ref (d0 5)), (2, .int p1)] := hl
  have ht := (xX9_carryRow_s 4 8 p1 S0).symm.trans ht
  obtain ⟨Q, hQ⟩ : ∃ Q, Q = MQ below (va_Qv (fun _ : Unit => True) (fun _ t => va_P D vwCl (wg9 cI cZ d0 tg) t.heap) A) ([.ref (d0 0), .ref (d0 5), .int p1] : List Value).toArray s 0 0 A := ⟨_, rfl⟩
  rw [← hQ]
  have L2 : ∀ (n : Nat) (x3 : Int32) (S0 : St) (H : Heap) (locs : List Loc) (_ : va_P D vwCl (wg9 cI cZ d0 S0) H) (_ : va_S A s.heap H locs) (ls : Array Slot) (_ : lv_has ls 4 [(0, .ref (d0 0)), (1, .ref (d0 5)), (2, .int p1), (3, .int x3)]) (_ : xX9_carryRow_h2 4 8 p1 n x3 S0 = some tg), W p l e (headSpec wsX9_carryRow rmX9_carryRow_r4).room s m ([.ref (d0 0), .ref (d0 5), .int p1] : List Value).toArray below meth c H locs 0 0 Q (F0 m 2 ls []) := by
    intro n
    induction n with
    | zero =>
      intro x3 S0 H locs hP hS ls hl ht
      exact it_z ht
    | succ n2 ih2 =>
      intro x3 S0 H locs hP hS ls hl ht
      have ht := (xX9_carryRow_h2_s 4 8 p1 n2 x3 S0).symm.trans ht
      refine lv_iload_n hx hb dX9_carryRow_2 rfl (lv_at hl 3 rfl) ?_
      refine lv_iload_n hx hb dX9_carryRow_3 rfl (lv_at hl 2 rfl) ?_
      refine lv_icmp_ge (tgt := 23) hx hb dX9_carryRow_4 (by decide) (fun c1 => ?_) (fun c1 => ?_)
      · have ht := it_p c1 ht
        subst hQ
        obtain rfl := Option.some.inj ht
        exact W.vret hx hb hr (fun t e1 hW => ⟨⟨(), rfl, trivial, q_at e1 hP⟩, hS.F e1⟩) hS.2.2 dX9_carryRow_23
      · have ht := it_n c1 ht
        refine lv_aload_n hx hb dX9_carryRow_7 rfl (lv_at hl 1 rfl) ?_
        refine lv_iload_n hx hb dX9_carryRow_8 rfl (lv_at hl 3 rfl) ?_
        refine lv_aload_n hx hb dX9_carryRow_9 rfl (lv_at hl 0 rfl) ?_
        refine lv_aload_n hx hb dX9_carryRow_10 rfl (lv_at hl 1 rfl) ?_
        refine lv_iload_n hx hb dX9_carryRow_11 rfl (lv_at hl 3 rfl) ?_
        obtain ⟨g2, ht⟩ := it_g ht
        refine va_iald hx hb hE.1 hP 5 0 rfl rfl (q_in g2) dX9_carryRow_12 ?_
        obtain ⟨q3, hq3, ht⟩ := it_b ht
        have hFc := q_freeW (hD S0) hS hA
        refine q_mi (va_runV (As := [.int (S0 4 x3.toNatClampNeg)]) (rest := [.int x3, .ref (d0 5)]) ⟨hx, hb, hml, hown, hts⟩ (kX9_carry l D cI cZ cO d0 H.size S0 (S0 4 x3.toNatClampNeg) q3 hq3) (cwV 1 hts gX9_carryRow_X9_carry rfl rfl rfl (by decide +kernel) ⟨Nat.le_of_ble_eq_true rfl, Nat.le_of_ble_eq_true rfl⟩) (q_mV (As := [.int (S0 4 x3.toNatClampNeg)]) hE hP (hD S0) (q0 := 0) (ci := 9) rfl rfl) rfl rfl hl.1 rfl (lv_room (Nat.le_of_ble_eq_true rfl)) dX9_carryRow_13 ⟨Nat.le_of_ble_eq_true rfl, Nat.le_of_ble_eq_true rfl⟩) hS hFc (fun H locs b4 hP1 hk hS => ?_)
        have hP : va_P D vwCl (wg9 cI cZ d0 q3.2) H := hP1
        refine va_iast hx hb hE.1 hP (hD _) hS 5 0 rfl rfl (q_in g2) dX9_carryRow_16 (fun H locs hP _ hS => ?_)
        have hP : va_P D vwCl (wg9 cI cZ d0 (q_su q3.2 4 x3.toNatClampNeg q3.1)) H := hP
        obtain ⟨T5, eT5⟩ : ∃ z : St, z = q_su q3.2 4 x3.toNatClampNeg q3.1 := ⟨_, rfl⟩
        rw [← eT5] at hP
        have ht := it_l ht eT5
        refine lv_iinc (v := x3 + 1) (lv' := [(3, .int (x3 + 1)), (0, .ref (d0 0)), (1, .ref (d0 5)), (2, .int p1)]) hx hb dX9_carryRow_17 hl (k := 3) rfl rfl (by decide) rfl (fun ls hl => ?_)
        refine lv_goto (tgt := 2) hx hb dX9_carryRow_20 (by decide) ?_
        exact ih2 (x3 + 1) T5 _ _ hP hS ls (lv_sub hl [1, 2, 3, 0] rfl) ht
  refine lv_iconst (v := 0) hx hb dX9_carryRow_0 (by decide) ?_
  refine lv_istore_n (lv' := [(3, .int 0), (0, .ref (d0 0)), (1, .ref (d0 5)), (2, .int p1)]) hx hb dX9_carryRow_1 rfl hl (by decide) rfl (fun ls hl => ?_)
  exact L2 5000 0 S0 _ _ hP hS ls (lv_sub hl [1, 2, 3, 0] rfl) ht
abbrev rmX9_carryRow_r5 : Room := { frames := 1, cells := 0, slots := 0, locals := 22 }
set_option maxHeartbeats 4000000 in
set_option maxRecDepth 100000 in
theorem kX9_carryRow_r5 (l : Launch) (D : va_G) (cI cZ cO : ClassId) (d0 : Nat → Nat) (sz : Nat) (S0 : St) (p1 : Int32) (tg : St) (ht : xX9_carryRow 5 4 p1 S0 = some tg) : Met l yX9_carryRow wsX9_carryRow rmX9_carryRow_r5 (q_PM D cI cZ cO [.ref (d0 0), .ref (d0 6), .int p1] sz (wg9 cI cZ d0 S0)) (va_Qv (fun _ : Unit => True) (fun _ t => va_P D vwCl (wg9 cI cZ d0 tg) t.heap) (va_A (wg9 cI cZ d0 S0) sz)) 0 0 (va_A (wg9 cI cZ d0 S0) sz) := by
  refine Met.ofW (cc := cX9_carryRow) (maxL := 4) (ret := none) (by decide) rfl ?_
  intro p e s m args below meth c s₁ B hml hv
  obtain ⟨rfl, hsz, hE, hP, hD0⟩ := hv
  have hx := B.exec
  have hb := B.bytes
  have hr := B.returns
  have hts := atoms_spec (ws := wsX9_carryRow) B.pre
  have hown : s.vm.findClass RX9 = some m.cls := findClass_of_methodNamed B.named
  have hlocks := B.notSynchronized
  subst hsz
  have hD1 := hD0.self (sz := s.heap.size)
  generalize hAe : va_A (wg9 cI cZ d0 S0) s.heap.size = A at hD1 ⊢
  have hA : ∀ q : Nat, s.heap.size ≤ q → A q := fun q h => by rw [← hAe]; exact Or.inr h
  have hS : va_S A s.heap s.heap [] := va_S.rf
  have hD : ∀ (S0 : St), va_D A (wg9 cI cZ d0 S0) := fun S0 => q_D hD1 rfl
  have hl := lv_entry ([.ref (d0 0), .ref (d0 6), .int p1]) (n := 4) (Nat.le_of_ble_eq_true rfl)
  rw [lg_entry_eq]
  generalize (lg_sl ([.ref (d0 0), .ref (d0 6), .int p1]) ++ List.replicate (4 - (lg_sl ([.ref (d0 0), .ref (d0 6), .int p1])).length) Slot.unset).toArray = ls at hl ⊢
  have hl : lv_has ls 4 [(0, .ref (d0 0)), (1, .ref (d0 6)), (2, .int p1)] := hl
  have ht := (xX9_carryRow_s 5 4 p1 S0).symm.trans ht
  obtain ⟨Q, hQ⟩ : ∃ Q, Q = MQ below (va_Qv (fun _ : Unit => True) (fun _ t => va_P D vwCl (wg9 cI cZ d0 tg) t.heap) A) ([.ref (d0 0), .ref (d0 6), .int p1] : List Value).toArray s 0 0 A := ⟨_, rfl⟩
  rw [← hQ]
  have L2 : ∀ (n : Nat) (x3 : Int32) (S0 : St) (H : Heap) (locs : List Loc) (_ : va_P D vwCl (wg9 cI cZ d0 S0) H) (_ : va_S A s.heap H locs) (ls : Array Slot) (_ : lv_has ls 4 [(0, .ref (d0 0)), (1, .ref (d0 6)), (2, .int p1), (3, .int x3)]) (_ : xX9_carryRow_h2 5 4 p1 n x3 S0 = some tg), W p l e (headSpec wsX9_carryRow rmX9_carryRow_r5).room s m ([.ref (d0 0), .ref (d0 6), .int p1] : List Value).toArray below meth c H locs 0 0 Q (F0 m 2 ls []) := by
    intro n
    induction n with
    | zero =>
      intro x3 S0 H locs hP hS ls hl ht
      exact it_z ht
    | succ n2 ih2 =>
      intro x3 S0 H locs hP hS ls hl ht
      have ht := (xX9_carryRow_h2_s 5 4 p1 n2 x3 S0).symm.trans ht
      refine lv_iload_n hx hb dX9_carryRow_2 rfl (lv_at hl 3 rfl) ?_
      refine lv_iload_n hx hb dX9_carryRow_3 rfl (lv_at hl 2 rfl) ?_
      refine lv_icmp_ge (tgt := 23) hx hb dX9_carryRow_4 (by decide) (fun c1 => ?_) (fun c1 => ?_)
      · have ht := it_p c1 ht
        subst hQ
        obtain rfl := Option.some.inj ht
        exact W.vret hx hb hr (fun t e1 hW => ⟨⟨(), rfl, trivial, q_at e1 hP⟩, hS.F e1⟩) hS.2.2 dX9_carryRow_23
      · have ht := it_n c1 ht
        refine lv_aload_n hx hb dX9_carryRow_7 rfl (lv_at hl 1 rfl) ?_
        refine lv_iload_n hx hb dX9_carryRow_8 rfl (lv_at hl 3 rfl) ?_
        refine lv_aload_n hx hb dX9_carryRow_9 rfl (lv_at hl 0 rfl) ?_
        refine lv_aload_n hx hb dX9_carryRow_10 rfl (lv_at hl 1 rfl) ?_
        refine lv_iload_n hx hb dX9_carryRow_11 rfl (lv_at hl 3 rfl) ?_
        obtain ⟨g2, ht⟩ := it_g ht
        refine va_iald hx hb hE.1 hP 6 0 rfl rfl (q_in g2) dX9_carryRow_12 ?_
        obtain ⟨q3, hq3, ht⟩ := it_b ht
        have hFc := q_freeW (hD S0) hS hA
        refine q_mi (va_runV (As := [.int (S0 5 x3.toNatClampNeg)]) (rest := [.int x3, .ref (d0 6)]) ⟨hx, hb, hml, hown, hts⟩ (kX9_carry l D cI cZ cO d0 H.size S0 (S0 5 x3.toNatClampNeg) q3 hq3) (cwV 1 hts gX9_carryRow_X9_carry rfl rfl rfl (by decide +kernel) ⟨Nat.le_of_ble_eq_true rfl, Nat.le_of_ble_eq_true rfl⟩) (q_mV (As := [.int (S0 5 x3.toNatClampNeg)]) hE hP (hD S0) (q0 := 0) (ci := 9) rfl rfl) rfl rfl hl.1 rfl (lv_room (Nat.le_of_ble_eq_true rfl)) dX9_carryRow_13 ⟨Nat.le_of_ble_eq_true rfl, Nat.le_of_ble_eq_true rfl⟩) hS hFc (fun H locs b4 hP1 hk hS => ?_)
        have hP : va_P D vwCl (wg9 cI cZ d0 q3.2) H := hP1
        refine va_iast hx hb hE.1 hP (hD _) hS 6 0 rfl rfl (q_in g2) dX9_carryRow_16 (fun H locs hP _ hS => ?_)
        have hP : va_P D vwCl (wg9 cI cZ d0 (q_su q3.2 5 x3.toNatClampNeg q3.1)) H := hP
        obtain ⟨T5, eT5⟩ : ∃ z : St, z = q_su q3.2 5 x3.toNatClampNeg q3.1 := ⟨_, rfl⟩
        rw [← eT5] at hP
        have ht := it_l ht eT5
        refine lv_iinc (v := x3 + 1) (lv' := [(3, .int (x3 + 1)), (0, .ref (d0 0)), (1, .ref (d0 6)), (2, .int p1)]) hx hb dX9_carryRow_17 hl (k := 3) rfl rfl (by decide) rfl (fun ls hl => ?_)
        refine lv_goto (tgt := 2) hx hb dX9_carryRow_20 (by decide) ?_
        exact ih2 (x3 + 1) T5 _ _ hP hS ls (lv_sub hl [1, 2, 3, 0] rfl) ht
  refine lv_iconst (v := 0) hx hb dX9_carryRow_0 (by decide) ?_
  refine lv_istore_n (lv' := [(3, .int 0), (0, .ref (d0 0)), (1, .ref (d0 6)), (2, .int p1)]) hx hb dX9_carryRow_1 rfl hl (by decide) rfl (fun ls hl => ?_)
  exact L2 5000 0 S0 _ _ hP hS ls (lv_sub hl [1, 2, 3, 0] rfl) ht
abbrev rmX9_carryRow_r6 : Room := { frames := 1, cells := 0, slots := 0, locals := 22 }
set_option maxHeartbeats 4000000 in
set_option maxRecDepth 100000 in
theorem kX9_carryRow_r6 (l : Launch) (D : va_G) (cI cZ cO : ClassId) (d0 : Nat → Nat) (sz : Nat) (S0 : St) (p1 : Int32) (tg : St) (ht : xX9_carryRow 6 4 p1 S0 = some tg) : Met l yX9_carryRow wsX9_carryRow rmX9_carryRow_r6 (q_PM D cI cZ cO [.ref (d0 0), .ref (d0 7), .int p1] sz (wg9 cI cZ d0 S0)) (va_Qv (fun _ : Unit => True) (fun _ t => va_P D vwCl (wg9 cI cZ d0 tg) t.heap) (va_A (wg9 cI cZ d0 S0) sz)) 0 0 (va_A (wg9 cI cZ d0 S0) sz) := by
  refine Met.ofW (cc := cX9_carryRow) (maxL := 4) (ret := none) (by decide) rfl ?_
  intro p e s m args below meth c s₁ B hml hv
  obtain ⟨rfl, hsz, hE, hP, hD0⟩ := hv
  have hx := B.exec
  have hb := B.bytes
  have hr := B.returns
  have hts := atoms_spec (ws := wsX9_carryRow) B.pre
  have hown : s.vm.findClass RX9 = some m.cls := findClass_of_methodNamed B.named
  have hlocks := B.notSynchronized
  subst hsz
  have hD1 := hD0.self (sz := s.heap.size)
  generalize hAe : va_A (wg9 cI cZ d0 S0) s.heap.size = A at hD1 ⊢
  have hA : ∀ q : Nat, s.heap.size ≤ q → A q := fun q h => by rw [← hAe]; exact Or.inr h
  have hS : va_S A s.heap s.heap [] := va_S.rf
  have hD : ∀ (S0 : St), va_D A (wg9 cI cZ d0 S0) := fun S0 => q_D hD1 rfl
  have hl := lv_entry ([.ref (d0 0), .ref (d0 7), .int p1]) (n := 4) (Nat.le_of_ble_eq_true rfl)
  rw [lg_entry_eq]
  generalize (lg_sl ([.ref (d0 0), .ref (d0 7), .int p1]) ++ List.replicate (4 - (lg_sl ([.ref (d0 0), .ref (d0 7), .int p1])).length) Slot.unset).toArray = ls at hl ⊢
  have hl : lv_has ls 4 [(0, .ref (d0 0)), (1, .ref (d0 7)), (2, .int p1)] := hl
  have ht := (xX9_carryRow_s 6 4 p1 S0).symm.trans ht
  obtain ⟨Q, hQ⟩ : ∃ Q, Q = MQ below (va_Qv (fun _ : Unit => True) (fun _ t => va_P D vwCl (wg9 cI cZ d0 tg) t.heap) A) ([.ref (d0 0), .ref (d0 7), .int p1] : List Value).toArray s 0 0 A := ⟨_, rfl⟩
  rw [← hQ]
  have L2 : ∀ (n : Nat) (x3 : Int32) (S0 : St) (H : Heap) (locs : List Loc) (_ : va_P D vwCl (wg9 cI cZ d0 S0) H) (_ : va_S A s.heap H locs) (ls : Array Slot) (_ : lv_has ls 4 [(0, .ref (d0 0)), (1, .ref (d0 7)), (2, .int p1), (3, .int x3)]) (_ : xX9_carryRow_h2 6 4 p1 n x3 S0 = some tg), W p l e (headSpec wsX9_carryRow rmX9_carryRow_r6).room s m ([.ref (d0 0), .ref (d0 7), .int p1] : List Value).toArray below meth c H locs 0 0 Q (F0 m 2 ls []) := by
    intro n
    induction n with
    | zero =>
      intro x3 S0 H locs hP hS ls hl ht
      exact it_z ht
    | succ n2 ih2 =>
      intro x3 S0 H locs hP hS ls hl ht
      have ht := (xX9_carryRow_h2_s 6 4 p1 n2 x3 S0).symm.trans ht
      refine lv_iload_n hx hb dX9_carryRow_2 rfl (lv_at hl 3 rfl) ?_
      refine lv_iload_n hx hb dX9_carryRow_3 rfl (lv_at hl 2 rfl) ?_
      refine lv_icmp_ge (tgt := 23) hx hb dX9_carryRow_4 (by decide) (fun c1 => ?_) (fun c1 => ?_)
      · have ht := it_p c1 ht
        subst hQ
        obtain rfl := Option.some.inj ht
        exact W.vret hx hb hr (fun t e1 hW => ⟨⟨(), rfl, trivial, q_at e1 hP⟩, hS.F e1⟩) hS.2.2 dX9_carryRow_23
      · have ht := it_n c1 ht
        refine lv_aload_n hx hb dX9_carryRow_7 rfl (lv_at hl 1 rfl) ?_
        refine lv_iload_n hx hb dX9_carryRow_8 rfl (lv_at hl 3 rfl) ?_
        refine lv_aload_n hx hb dX9_carryRow_9 rfl (lv_at hl 0 rfl) ?_
        refine lv_aload_n hx hb dX9_carryRow_10 rfl (lv_at hl 1 rfl) ?_
        refine lv_iload_n hx hb dX9_carryRow_11 rfl (lv_at hl 3 rfl) ?_
        obtain ⟨g2, ht⟩ := it_g ht
        refine va_iald hx hb hE.1 hP 7 0 rfl rfl (q_in g2) dX9_carryRow_12 ?_
        obtain ⟨q3, hq3, ht⟩ := it_b ht
        have hFc := q_freeW (hD S0) hS hA
        refine q_mi (va_runV (As := [.int (S0 6 x3.toNatClampNeg)]) (rest := [.int x3, .ref (d0 7)]) ⟨hx, hb, hml, hown, hts⟩ (kX9_carry l D cI cZ cO d0 H.size S0 (S0 6 x3.toNatClampNeg) q3 hq3) (cwV 1 hts gX9_carryRow_X9_carry rfl rfl rfl (by decide +kernel) ⟨Nat.le_of_ble_eq_true rfl, Nat.le_of_ble_eq_true rfl⟩) (q_mV (As := [.int (S0 6 x3.toNatClampNeg)]) hE hP (hD S0) (q0 := 0) (ci := 9) rfl rfl) rfl rfl hl.1 rfl (lv_room (Nat.le_of_ble_eq_true rfl)) dX9_carryRow_13 ⟨Nat.le_of_ble_eq_true rfl, Nat.le_of_ble_eq_true rfl⟩) hS hFc (fun H locs b4 hP1 hk hS => ?_)
        have hP : va_P D vwCl (wg9 cI cZ d0 q3.2) H := hP1
        refine va_iast hx hb hE.1 hP (hD _) hS 7 0 rfl rfl (q_in g2) dX9_carryRow_16 (fun H locs hP _ hS => ?_)
        have hP : va_P D vwCl (wg9 cI cZ d0 (q_su q3.2 6 x3.toNatClampNeg q3.1)) H := hP
        obtain ⟨T5, eT5⟩ : ∃ z : St, z = q_su q3.2 6 x3.toNatClampNeg q3.1 := ⟨_, rfl⟩
        rw [← eT5] at hP
        have ht := it_l ht eT5
        refine lv_iinc (v := x3 + 1) (lv' := [(3, .int (x3 + 1)), (0, .ref (d0 0)), (1, .ref (d0 7)), (2, .int p1)]) hx hb dX9_carryRow_17 hl (k := 3) rfl rfl (by decide) rfl (fun ls hl => ?_)
        refine lv_goto (tgt := 2) hx hb dX9_carryRow_20 (by decide) ?_
        exact ih2 (x3 + 1) T5 _ _ hP hS ls (lv_sub hl [1, 2, 3, 0] rfl) ht
  refine lv_iconst (v := 0) hx hb dX9_carryRow_0 (by decide) ?_
  refine lv_istore_n (lv' := [(3, .int 0), (0, .ref (d0 0)), (1, .ref (d0 7)), (2, .int p1)]) hx hb dX9_carryRow_1 rfl hl (by decide) rfl (fun ls hl => ?_)
  exact L2 5000 0 S0 _ _ hP hS ls (lv_sub hl [1, 2, 3, 0] rfl) ht
abbrev rmX9_carryRow_r7 : Room := { frames := 1, cells := 0, slots := 0, locals := 22 }
set_option maxHeartbeats 4000000 in
set_option maxRecDepth 100000 in
theorem kX9_carryRow_r7 (l : Launch) (D : va_G) (cI cZ cO : ClassId) (d0 : Nat → Nat) (sz : Nat) (S0 : St) (p1 : Int32) (tg : St) (ht : xX9_carryRow 7 4 p1 S0 = some tg) : Met l yX9_carryRow wsX9_carryRow rmX9_carryRow_r7 (q_PM D cI cZ cO [.ref (d0 0), .ref (d0 8), .int p1] sz (wg9 cI cZ d0 S0)) (va_Qv (fun _ : Unit => True) (fun _ t => va_P D vwCl (wg9 cI cZ d0 tg) t.heap) (va_A (wg9 cI cZ d0 S0) sz)) 0 0 (va_A (wg9 cI cZ d0 S0) sz) := by
  refine Met.ofW (cc := cX9_carryRow) (maxL := 4) (ret := none) (by decide) rfl ?_
  intro p e s m args below meth c s₁ B hml hv
  obtain ⟨rfl, hsz, hE, hP, hD0⟩ := hv
  have hx := B.exec
  have hb := B.bytes
  have hr := B.returns
  have hts := atoms_spec (ws := wsX9_carryRow) B.pre
  have hown : s.vm.findClass RX9 = some m.cls := findClass_of_methodNamed B.named
  have hlocks := B.notSynchronized
  subst hsz
  have hD1 := hD0.self (sz := s.heap.size)
  generalize hAe : va_A (wg9 cI cZ d0 S0) s.heap.size = A at hD1 ⊢
  have hA : ∀ q : Nat, s.heap.size ≤ q → A q := fun q h => by rw [← hAe]; exact Or.inr h
  have hS : va_S A s.heap s.heap [] := va_S.rf
  have hD : ∀ (S0 : St), va_D A (wg9 cI cZ d0 S0) := fun S0 => q_D hD1 rfl
  have hl := lv_entry ([.ref (d0 0), .ref (d0 8), .int p1]) (n := 4) (Nat.le_of_ble_eq_true rfl)
  rw [lg_entry_eq]
  generalize (lg_sl ([.ref (d0 0), .ref (d0 8), .int p1]) ++ List.replicate (4 - (lg_sl ([.ref (d0 0), .ref (d0 8), .int p1])).length) Slot.unset).toArray = ls at hl ⊢
  have hl : lv_has ls 4 [(0, .ref (d0 0)), (1, .ref (d0 8)), (2, .int p1)] := hl
  have ht := (xX9_carryRow_s 7 4 p1 S0).symm.trans ht
  obtain ⟨Q, hQ⟩ : ∃ Q, Q = MQ below (va_Qv (fun _ : Unit => True) (fun _ t => va_P D vwCl (wg9 cI cZ d0 tg) t.heap) A) ([.ref (d0 0), .ref (d0 8), .int p1] : List Value).toArray s 0 0 A := ⟨_, rfl⟩
  rw [← hQ]
  have L2 : ∀ (n : Nat) (x3 : Int32) (S0 : St) (H : Heap) (locs : List Loc) (_ : va_P D vwCl (wg9 cI cZ d0 S0) H) (_ : va_S A s.heap H locs) (ls : Array Slot) (_ : lv_has ls 4 [(0, .ref (d0 0)), (1, .ref (d0 8)), (2, .int p1), (3, .int x3)]) (_ : xX9_carryRow_h2 7 4 p1 n x3 S0 = some tg), W p l e (headSpec wsX9_carryRow rmX9_carryRow_r7).room s m ([.ref (d0 0), .ref (d0 8), .int p1] : List Value).toArray below meth c H locs 0 0 Q (F0 m 2 ls []) := by
    intro n
    induction n with
    | zero =>
      intro x3 S0 H locs hP hS ls hl ht
      exact it_z ht
    | succ n2 ih2 =>
      intro x3 S0 H locs hP hS ls hl ht
      have ht := (xX9_carryRow_h2_s 7 4 p1 n2 x3 S0).symm.trans ht
      refine lv_iload_n hx hb dX9_carryRow_2 rfl (lv_at hl 3 rfl) ?_
      refine lv_iload_n hx hb dX9_carryRow_3 rfl (lv_at hl 2 rfl) ?_
      refine lv_icmp_ge (tgt := 23) hx hb dX9_carryRow_4 (by decide) (fun c1 => ?_) (fun c1 => ?_)
      · have ht := it_p c1 ht
        subst hQ
        obtain rfl := Option.some.inj ht
        exact W.vret hx hb hr (fun t e1 hW => ⟨⟨(), rfl, trivial, q_at e1 hP⟩, hS.F e1⟩) hS.2.2 dX9_carryRow_23
      · have ht := it_n c1 ht
        refine lv_aload_n hx hb dX9_carryRow_7 rfl (lv_at hl 1 rfl) ?_
        refine lv_iload_n hx hb dX9_carryRow_8 rfl (lv_at hl 3 rfl) ?_
        refine lv_aload_n hx hb dX9_carryRow_9 rfl (lv_at hl 0 rfl) ?_
        refine lv_aload_n hx hb dX9_carryRow_10 rfl (lv_at hl 1 rfl) ?_
        refine lv_iload_n hx hb dX9_carryRow_11 rfl (lv_at hl 3 rfl) ?_
        obtain ⟨g2, ht⟩ := it_g ht
        refine va_iald hx hb hE.1 hP 8 0 rfl rfl (q_in g2) dX9_carryRow_12 ?_
        obtain ⟨q3, hq3, ht⟩ := it_b ht
        have hFc := q_freeW (hD S0) hS hA
        refine q_mi (va_runV (As := [.int (S0 7 x3.toNatClampNeg)]) (rest := [.int x3, .ref (d0 8)]) ⟨hx, hb, hml, hown, hts⟩ (kX9_carry l D cI cZ cO d0 H.size S0 (S0 7 x3.toNatClampNeg) q3 hq3) (cwV 1 hts gX9_carryRow_X9_carry rfl rfl rfl (by decide +kernel) ⟨Nat.le_of_ble_eq_true rfl, Nat.le_of_ble_eq_true rfl⟩) (q_mV (As := [.int (S0 7 x3.toNatClampNeg)]) hE hP (hD S0) (q0 := 0) (ci := 9) rfl rfl) rfl rfl hl.1 rfl (lv_room (Nat.le_of_ble_eq_true rfl)) dX9_carryRow_13 ⟨Nat.le_of_ble_eq_true rfl, Nat.le_of_ble_eq_true rfl⟩) hS hFc (fun H locs b4 hP1 hk hS => ?_)
        have hP : va_P D vwCl (wg9 cI cZ d0 q3.2) H := hP1
        refine va_iast hx hb hE.1 hP (hD _) hS 8 0 rfl rfl (q_in g2) dX9_carryRow_16 (fun H locs hP _ hS => ?_)
        have hP : va_P D vwCl (wg9 cI cZ d0 (q_su q3.2 7 x3.toNatClampNeg q3.1)) H := hP
        obtain ⟨T5, eT5⟩ : ∃ z : St, z = q_su q3.2 7 x3.toNatClampNeg q3.1 := ⟨_, rfl⟩
        rw [← eT5] at hP
        have ht := it_l ht eT5
        refine lv_iinc (v := x3 + 1) (lv' := [(3, .int (x3 + 1)), (0, .ref (d0 0)), (1, .ref (d0 8)), (2, .int p1)]) hx hb dX9_carryRow_17 hl (k := 3) rfl rfl (by decide) rfl (fun ls hl => ?_)
        refine lv_goto (tgt := 2) hx hb dX9_carryRow_20 (by decide) ?_
        exact ih2 (x3 + 1) T5 _ _ hP hS ls (lv_sub hl [1, 2, 3, 0] rfl) ht
  refine lv_iconst (v := 0) hx hb dX9_carryRow_0 (by decide) ?_
  refine lv_istore_n (lv' := [(3, .int 0), (0, .ref (d0 0)), (1, .ref (d0 8)), (2, .int p1)]) hx hb dX9_carryRow_1 rfl hl (by decide) rfl (fun ls hl => ?_)
  exact L2 5000 0 S0 _ _ hP hS ls (lv_sub hl [1, 2, 3, 0] rfl) ht
abbrev rmX9_carryRow_r8 : Room := { frames := 1, cells := 0, slots := 0, locals := 22 }
set_option maxHeartbeats 4000000 in
set_option maxRecDepth 100000 in
theorem kX9_carryRow_r8 (l : Launch) (D : va_G) (cI cZ cO : ClassId) (d0 : Nat → Nat) (sz : Nat) (S0 : St) (p1 : Int32) (tg : St) (ht : xX9_carryRow 8 4 p1 S0 = some tg) : Met l yX9_carryRow wsX9_carryRow rmX9_carryRow_r8 (q_PM D cI cZ cO [.ref (d0 0), .ref (d0 9), .int p1] sz (wg9 cI cZ d0 S0)) (va_Qv (fun _ : Unit => True) (fun _ t => va_P D vwCl (wg9 cI cZ d0 tg) t.heap) (va_A (wg9 cI cZ d0 S0) sz)) 0 0 (va_A (wg9 cI cZ d0 S0) sz) := by
  refine Met.ofW (cc := cX9_carryRow) (maxL := 4) (ret := none) (by decide) rfl ?_
  intro p e s m args below meth c s₁ B hml hv
  obtain ⟨rfl, hsz, hE, hP, hD0⟩ := hv
  have hx := B.exec
  have hb := B.bytes
  have hr := B.returns
  have hts := atoms_spec (ws := wsX9_carryRow) B.pre
  have hown : s.vm.findClass RX9 = some m.cls := findClass_of_methodNamed B.named
  have hlocks := B.notSynchronized
  subst hsz
  have hD1 := hD0.self (sz := s.heap.size)
  generalize hAe : va_A (wg9 cI cZ d0 S0) s.heap.size = A at hD1 ⊢
  have hA : ∀ q : Nat, s.heap.size ≤ q → A q := fun q h => by rw [← hAe]; exact Or.inr h
  have hS : va_S A s.heap s.heap [] := va_S.rf
  have hD : ∀ (S0 : St), va_D A (wg9 cI cZ d0 S0) := fun S0 => q_D hD1 rfl
  have hl := lv_entry ([.ref (d0 0), .ref (d0 9), .int p1]) (n := 4) (Nat.le_of_ble_eq_true rfl)
  rw [lg_entry_eq]
  generalize (lg_sl ([.ref (d0 0), .ref (d0 9), .int p1]) ++ List.replicate (4 - (lg_sl ([.ref (d0 0), .ref (d0 9), .int p1])).length) Slot.unset).toArray = ls at hl ⊢
  have hl : lv_has ls 4 [(0, .ref (d0 0)), (1, .ref (d0 9)), (2, .int p1)] := hl
  have ht := (xX9_carryRow_s 8 4 p1 S0).symm.trans ht
  obtain ⟨Q, hQ⟩ : ∃ Q, Q = MQ below (va_Qv (fun _ : Unit => True) (fun _ t => va_P D vwCl (wg9 cI cZ d0 tg) t.heap) A) ([.ref (d0 0), .ref (d0 9), .int p1] : List Value).toArray s 0 0 A := ⟨_, rfl⟩
  rw [← hQ]
  have L2 : ∀ (n : Nat) (x3 : Int32) (S0 : St) (H : Heap) (locs : List Loc) (_ : va_P D vwCl (wg9 cI cZ d0 S0) H) (_ : va_S A s.heap H locs) (ls : Array Slot) (_ : lv_has ls 4 [(0, .ref (d0 0)), (1, .ref (d0 9)), (2, .int p1), (3, .int x3)]) (_ : xX9_carryRow_h2 8 4 p1 n x3 S0 = some tg), W p l e (headSpec wsX9_carryRow rmX9_carryRow_r8).room s m ([.ref (d0 0), .ref (d0 9), .int p1] : List Value).toArray below meth c H locs 0 0 Q (F0 m 2 ls []) := by
    intro n
    induction n with
    | zero =>
      intro x3 S0 H locs hP hS ls hl ht
      exact it_z ht
    | succ n2 ih2 =>
      intro x3 S0 H locs hP hS ls hl ht
      have ht := (xX9_carryRow_h2_s 8 4 p1 n2 x3 S0).symm.trans ht
      refine lv_iload_n hx hb dX9_carryRow_2 rfl (lv_at hl 3 rfl) ?_
      refine lv_iload_n hx hb dX9_carryRow_3 rfl (lv_at hl 2 rfl) ?_
      refine lv_icmp_ge (tgt := 23) hx hb dX9_carryRow_4 (by decide) (fun c1 => ?_) (fun c1 => ?_)
      · have ht := it_p c1 ht
        subst hQ
        obtain rfl := Option.some.inj ht
        exact W.vret hx hb hr (fun t e1 hW => ⟨⟨(), rfl, trivial, q_at e1 hP⟩, hS.F e1⟩) hS.2.2 dX9_carryRow_23
      · have ht := it_n c1 ht
        refine lv_aload_n hx hb dX9_carryRow_7 rfl (lv_at hl 1 rfl) ?_
        refine lv_iload_n hx hb dX9_carryRow_8 rfl (lv_at hl 3 rfl) ?_
        refine lv_aload_n hx hb dX9_carryRow_9 rfl (lv_at hl 0 rfl) ?_
        refine lv_aload_n hx hb dX9_carryRow_10 rfl (lv_at hl 1 rfl) ?_
        refine lv_iload_n hx hb dX9_carryRow_11 rfl (lv_at hl 3 rfl) ?_
        obtain ⟨g2, ht⟩ := it_g ht
        refine va_iald hx hb hE.1 hP 9 0 rfl rfl (q_in g2) dX9_carryRow_12 ?_
        obtain ⟨q3, hq3, ht⟩ := it_b ht
        have hFc := q_freeW (hD S0) hS hA
        refine q_mi (va_runV (As := [.int (S0 8 x3.toNatClampNeg)]) (rest := [.int x3, .ref (d0 9)]) ⟨hx, hb, hml, hown, hts⟩ (kX9_carry l D cI cZ cO d0 H.size S0 (S0 8 x3.toNatClampNeg) q3 hq3) (cwV 1 hts gX9_carryRow_X9_carry rfl rfl rfl (by decide +kernel) ⟨Nat.le_of_ble_eq_true rfl, Nat.le_of_ble_eq_true rfl⟩) (q_mV (As := [.int (S0 8 x3.toNatClampNeg)]) hE hP (hD S0) (q0 := 0) (ci := 9) rfl rfl) rfl rfl hl.1 rfl (lv_room (Nat.le_of_ble_eq_true rfl)) dX9_carryRow_13 ⟨Nat.le_of_ble_eq_true rfl, Nat.le_of_ble_eq_true rfl⟩) hS hFc (fun H locs b4 hP1 hk hS => ?_)
        have hP : va_P D vwCl (wg9 cI cZ d0 q3.2) H := hP1
        refine va_iast hx hb hE.1 hP (hD _) hS 9 0 rfl rfl (q_in g2) dX9_carryRow_16 (fun H locs hP _ hS => ?_)
        have hP : va_P D vwCl (wg9 cI cZ d0 (q_su q3.2 8 x3.toNatClampNeg q3.1)) H := hP
        obtain ⟨T5, eT5⟩ : ∃ z : St, z = q_su q3.2 8 x3.toNatClampNeg q3.1 := ⟨_, rfl⟩
        rw [← eT5] at hP
        have ht := it_l ht eT5
        refine lv_iinc (v := x3 + 1) (lv' := [(3, .int (x3 + 1)), (0, .ref (d0 0)), (1, .ref (d0 9)), (2, .int p1)]) hx hb dX9_carryRow_17 hl (k := 3) rfl rfl (by decide) rfl (fun ls hl => ?_)
        refine lv_goto (tgt := 2) hx hb dX9_carryRow_20 (by decide) ?_
        exact ih2 (x3 + 1) T5 _ _ hP hS ls (lv_sub hl [1, 2, 3, 0] rfl) ht
  refine lv_iconst (v := 0) hx hb dX9_carryRow_0 (by decide) ?_
  refine lv_istore_n (lv' := [(3, .int 0), (0, .ref (d0 0)), (1, .ref (d0 9)), (2, .int p1)]) hx hb dX9_carryRow_1 rfl hl (by decide) rfl (fun ls hl => ?_)
  exact L2 5000 0 S0 _ _ hP hS ls (lv_sub hl [1, 2, 3, 0] rfl) ht
