abbrev rmX0_set : Room := { frames := 0, cells := 0, slots := 0, locals := 0 }
set_option maxHeartbeats 4000000 in
set_option maxRecDepth 100000 in
theorem kX0_set (l : Launch) (D : va_G) (cI cZ cO : ClassId) (d0 : Nat → Nat) (sz : Nat) (S0 : St) (p0 : Int32) (p1 : Int32) (p2 : Int32) (tg : St) (ht : xX0_set p0 p1 p2 S0 = some tg) : Met l yX0_set wsX0_set rmX0_set (q_PM D cI cZ cO [.ref (d0 0), .int p0, .int p1, .int p2] sz (wg0 cI cZ d0 S0)) (va_Qv (fun _ : Unit => True) (fun _ t => va_P D vwCl (wg0 cI cZ d0 tg) t.heap) (va_A (wg0 cI cZ d0 S0) sz)) 0 0 (va_A (wg0 cI cZ d0 S0) sz) := by
  refine Met.ofW (cc := cX0_set) (maxL := 4) (ret := none) (by decide) rfl ?_
  intro p e s m args below meth c s₁ B hml hv
  obtain ⟨rfl, hsz, hE, hP, hD0⟩ := hv
  have hx := B.exec
  have hb := B.bytes
  have hr := B.returns
  have hts := atoms_spec (ws := wsX0_set) B.pre
  have hown : s.vm.findClass RX0 = some m.cls := findClass_of_methodNamed B.named
  have hlocks := B.notSynchronized
  have hi0 : ∀ w ∈ u_ws RX0 TX0 3, w ∈ wsX0_set := by decide +kernel
  have hw0 := hts (.fieldLink RX0 9 "HailNames$Act" "kind" "I") (by decide +kernel)
  have hw1 := hts (.fieldLink RX0 15 "HailNames$Act" "who" "I") (by decide +kernel)
  have hw2 := hts (.fieldLink RX0 18 "HailNames$Act" "whom" "I") (by decide +kernel)
  subst hsz
  have hD1 := hD0.self (sz := s.heap.size)
  generalize hAe : va_A (wg0 cI cZ d0 S0) s.heap.size = A at hD1 ⊢
  have hA : ∀ q : Nat, s.heap.size ≤ q → A q := fun q h => by rw [← hAe]; exact Or.inr h
  have hS : va_S A s.heap s.heap [] := va_S.rf
  have hD : ∀ (S0 : St), va_D A (wg0 cI cZ d0 S0) := fun S0 => q_D hD1 rfl
  have hl := lv_entry ([.ref (d0 0), .int p0, .int p1, .int p2]) (n := 4) (Nat.le_of_ble_eq_true rfl)
  rw [lg_entry_eq]
  generalize (lg_sl ([.ref (d0 0), .int p0, .int p1, .int p2]) ++ List.replicate (4 - (lg_sl ([.ref (d0 0), .int p0, .int p1, .int p2])).length) Slot.unset).toArray = ls at hl ⊢
  have hl : lv_has ls 4 [(0, .ref (d0 0)), (1, .int p0), (2, .int p1), (3, .int p2)] := hl
  have ht := (xX0_set_s p0 p1 p2 S0).symm.trans ht
  refine lv_aload_n hx hb dX0_set_0 rfl (lv_at hl 0 rfl) ?_
  refine lv_iload_n hx hb dX0_set_1 rfl (lv_at hl 1 rfl) ?_
  refine va_put (D := D) (ci := 0) (v := .int p0) (ty := .int) (C := RX0) (T := TX0) (N := 3) hx hb hts hi0 tyX0 tyX0_ok nmX0 hown hE.1 hP (hD _) hS 0 rfl rfl 0 (by decide) hw0 (fun _ h9 => h9) rfl (by decide +kernel) rfl rfl (Nat.le_of_ble_eq_true rfl) dX0_set_2 (fun H locs hP _ hS => ?_)
  have hP : va_P D vwCl (wg0 cI cZ d0 (q_su S0 0 0 p0)) H := hP
  obtain ⟨T1, eT1⟩ : ∃ z : St, z = q_su S0 0 0 p0 := ⟨_, rfl⟩
  rw [← eT1] at hP
  have ht := it_l ht eT1
  refine lv_aload_n hx hb dX0_set_5 rfl (lv_at hl 0 rfl) ?_
  refine lv_iload_n hx hb dX0_set_6 rfl (lv_at hl 2 rfl) ?_
  refine va_put (D := D) (ci := 0) (v := .int p1) (ty := .int) (C := RX0) (T := TX0) (N := 3) hx hb hts hi0 tyX0 tyX0_ok nmX0 hown hE.1 hP (hD _) hS 0 rfl rfl 1 (by decide) hw1 (fun _ h9 => h9) rfl (by decide +kernel) rfl rfl (Nat.le_of_ble_eq_true rfl) dX0_set_7 (fun H locs hP _ hS => ?_)
  have hP : va_P D vwCl (wg0 cI cZ d0 (q_su T1 1 0 p1)) H := hP
  obtain ⟨T2, eT2⟩ : ∃ z : St, z = q_su T1 1 0 p1 := ⟨_, rfl⟩
  rw [← eT2] at hP
  have ht := it_l ht eT2
  refine lv_aload_n hx hb dX0_set_10 rfl (lv_at hl 0 rfl) ?_
  refine lv_iload_n hx hb dX0_set_11 rfl (lv_at hl 3 rfl) ?_
  refine va_put (D := D) (ci := 0) (v := .int p2) (ty := .int) (C := RX0) (T := TX0) (N := 3) hx hb hts hi0 tyX0 tyX0_ok nmX0 hown hE.1 hP (hD _) hS 0 rfl rfl 2 (by decide) hw2 (fun _ h9 => h9) rfl (by decide +kernel) rfl rfl (Nat.le_of_ble_eq_true rfl) dX0_set_12 (fun H locs hP _ hS => ?_)
  have hP : va_P D vwCl (wg0 cI cZ d0 (q_su T2 2 0 p2)) H := hP
  obtain ⟨T3, eT3⟩ : ∃ z : St, z = q_su T2 2 0 p2 := ⟨_, rfl⟩
  rw [← eT3] at hP
  have ht := it_l ht eT3
  obtain rfl := Option.some.inj ht
  exact W.vret hx hb hr (fun t e1 hW => ⟨⟨(), rfl, trivial, q_at e1 hP⟩, hS.F e1⟩) hS.2.2 dX0_set_15
abbrev rmX8_within : Room := { frames := 0, cells := 0, slots := 0, locals := 0 }
set_option maxHeartbeats 4000000 in
set_option maxRecDepth 100000 in
theorem kX8_within (l : Launch) (D : va_G) (cI cZ cO : ClassId) (p0 : Int32) (p1 : Int32) (p2 : Int32) : Met l yX8_within wsX8_within rmX8_within (q_PR D cI cZ cO [.int p0, .int p1, .int p2] ([] : va_W)) (vp_Si (fun x => x = xX8_within p0 p1 p2 ∧ narrow .boolean (.int x) = .int x)) 0 0 (fun _ => False) := by
  refine Met.ofW (cc := cX8_within) (maxL := 3) (ret := (some .boolean)) (by decide) rfl ?_
  intro p e s m args below meth c s₁ B hml hv
  obtain ⟨rfl, hE, hP⟩ := hv
  have hx := B.exec
  have hb := B.bytes
  have hr := B.returns
  have hts := atoms_spec (ws := wsX8_within) B.pre
  have hown : s.vm.findClass RX8 = some m.cls := findClass_of_methodNamed B.named
  have hlocks := B.notSynchronized
  have hl := lv_entry ([.int p0, .int p1, .int p2]) (n := 3) (Nat.le_of_ble_eq_true rfl)
  rw [lg_entry_eq]
  generalize (lg_sl ([.int p0, .int p1, .int p2]) ++ List.replicate (3 - (lg_sl ([.int p0, .int p1, .int p2])).length) Slot.unset).toArray = ls at hl ⊢
  have hl : lv_has ls 3 [(0, .int p0), (1, .int p1), (2, .int p2)] := hl
  have ht := xX8_within_s p0 p1 p2
  obtain ⟨tg, htg⟩ : ∃ z, z = xX8_within p0 p1 p2 := ⟨_, rfl⟩
  rw [← htg] at ht ⊢
  have ht := ht.symm
  refine lv_iload_n hx hb dX8_within_0 rfl (lv_at hl 1 rfl) ?_
  refine lv_iload_n hx hb dX8_within_1 rfl (lv_at hl 0 rfl) ?_
  refine lv_icmp_gt (tgt := 14) hx hb dX8_within_2 (by decide) (fun c1 => ?_) (fun c1 => ?_)
  · have ht := it_p c1 ht
    refine lv_iconst (v := 0) hx hb dX8_within_14 (by decide) ?_
    exact W.zret (v := 0) (ty := .boolean) hx hb hr (by decide +kernel) (fun t e1 hW => ⟨_, rfl, ⟨ht, (by decide +kernel)⟩, e1⟩) (fun q h => absurd h List.not_mem_nil) dX8_within_15
  · have ht := it_n c1 ht
    refine lv_iload_n hx hb dX8_within_5 rfl (lv_at hl 0 rfl) ?_
    refine lv_iload_n hx hb dX8_within_6 rfl (lv_at hl 2 rfl) ?_
    refine lv_icmp_gt (tgt := 14) hx hb dX8_within_7 (by decide) (fun c2 => ?_) (fun c2 => ?_)
    · have ht := it_p c2 ht
      refine lv_iconst (v := 0) hx hb dX8_within_14 (by decide) ?_
      exact W.zret (v := 0) (ty := .boolean) hx hb hr (by decide +kernel) (fun t e1 hW => ⟨_, rfl, ⟨ht, (by decide +kernel)⟩, e1⟩) (fun q h => absurd h List.not_mem_nil) dX8_within_15
    · have ht := it_n c2 ht
      refine lv_iconst (v := 1) hx hb dX8_within_10 (by decide) ?_
      refine lv_goto (tgt := 15) hx hb dX8_within_11 (by decide) ?_
      exact W.zret (v := 1) (ty := .boolean) hx hb hr (by decide +kernel) (fun t e1 hW => ⟨_, rfl, ⟨ht, (by decide +kernel)⟩, e1⟩) (fun q h => absurd h List.not_mem_nil) dX8_within_15
abbrev rmX8_isPerson : Room := { frames := 1, cells := 0, slots := 0, locals := 22 }
set_option maxHeartbeats 4000000 in
set_option maxRecDepth 100000 in
theorem kX8_isPerson (l : Launch) (D : va_G) (cI cZ cO : ClassId) (p0 : Int32) : Met l yX8_isPerson wsX8_isPerson rmX8_isPerson (q_PR D cI cZ cO [.int p0] ([] : va_W)) (vp_Si (fun x => x = xX8_isPerson p0 ∧ narrow .boolean (.int x) = .int x)) 0 0 (fun _ => False) := by
  refine Met.ofW (cc := cX8_isPerson) (maxL := 1) (ret := (some .boolean)) (by decide) rfl ?_
  intro p e s m args below meth c s₁ B hml hv
  obtain ⟨rfl, hE, hP⟩ := hv
  have hx := B.exec
  have hb := B.bytes
  have hr := B.returns
  have hts := atoms_spec (ws := wsX8_isPerson) B.pre
  have hown : s.vm.findClass RX8 = some m.cls := findClass_of_methodNamed B.named
  have hlocks := B.notSynchronized
  have hl := lv_entry ([.int p0]) (n := 1) (Nat.le_of_ble_eq_true rfl)
  rw [lg_entry_eq]
  generalize (lg_sl ([.int p0]) ++ List.replicate (1 - (lg_sl ([.int p0])).length) Slot.unset).toArray = ls at hl ⊢
  have hl : lv_has ls 1 [(0, .int p0)] := hl
  have ht := xX8_isPerson_s p0
  obtain ⟨tg, htg⟩ : ∃ z, z = xX8_isPerson p0 := ⟨_, rfl⟩
  rw [← htg] at ht ⊢
  have ht := ht.symm
  refine lv_iload_n hx hb dX8_isPerson_0 rfl (lv_at hl 0 rfl) ?_
  refine lv_iconst (v := 0) hx hb dX8_isPerson_1 (by decide) ?_
  refine lv_bipush (v := 7) hx hb dX8_isPerson_2 (by decide) ?_
  refine q_ri (va_runS (As := [.int p0, .int 0, .int 7]) (rest := []) ⟨hx, hb, hml, hown, hts⟩ (kX8_within l D cI cZ cO p0 0 7) (va_cwS 3 hts gX8_isPerson_X8_within rfl rfl rfl (by decide +kernel) ⟨Nat.le_of_ble_eq_true rfl, Nat.le_of_ble_eq_true rfl⟩) (q_rS hE q_nil) rfl rfl hl.1 rfl (lv_room (Nat.le_of_ble_eq_true rfl)) dX8_isPerson_4 ⟨Nat.le_of_ble_eq_true rfl, Nat.le_of_ble_eq_true rfl⟩) (fun b1 => ?_)
  exact W.zret (v := xX8_within p0 0 7) (ty := .boolean) hx hb hr b1 (fun t e1 hW => ⟨_, rfl, ⟨ht, b1⟩, e1⟩) (fun q h => absurd h List.not_mem_nil) dX8_isPerson_7
abbrev rmX8_isCell : Room := { frames := 1, cells := 0, slots := 0, locals := 22 }
set_option maxHeartbeats 4000000 in
set_option maxRecDepth 100000 in
theorem kX8_isCell (l : Launch) (D : va_G) (cI cZ cO : ClassId) (p0 : Int32) : Met l yX8_isCell wsX8_isCell rmX8_isCell (q_PR D cI cZ cO [.int p0] ([] : va_W)) (vp_Si (fun x => x = xX8_isCell p0 ∧ narrow .boolean (.int x) = .int x)) 0 0 (fun _ => False) := by
  refine Met.ofW (cc := cX8_isCell) (maxL := 1) (ret := (some .boolean)) (by decide) rfl ?_
  intro p e s m args below meth c s₁ B hml hv
  obtain ⟨rfl, hE, hP⟩ := hv
  have hx := B.exec
  have hb := B.bytes
  have hr := B.returns
  have hts := atoms_spec (ws := wsX8_isCell) B.pre
  have hown : s.vm.findClass RX8 = some m.cls := findClass_of_methodNamed B.named
  have hlocks := B.notSynchronized
  have hl := lv_entry ([.int p0]) (n := 1) (Nat.le_of_ble_eq_true rfl)
  rw [lg_entry_eq]
  generalize (lg_sl ([.int p0]) ++ List.replicate (1 - (lg_sl ([.int p0])).length) Slot.unset).toArray = ls at hl ⊢
  have hl : lv_has ls 1 [(0, .int p0)] := hl
  have ht := xX8_isCell_s p0
  obtain ⟨tg, htg⟩ : ∃ z, z = xX8_isCell p0 := ⟨_, rfl⟩
  rw [← htg] at ht ⊢
  have ht := ht.symm
  refine lv_iload_n hx hb dX8_isCell_0 rfl (lv_at hl 0 rfl) ?_
  refine lv_iconst (v := 0) hx hb dX8_isCell_1 (by decide) ?_
  refine lv_bipush (v := 11) hx hb dX8_isCell_2 (by decide) ?_
  refine q_ri (va_runS (As := [.int p0, .int 0, .int 11]) (rest := []) ⟨hx, hb, hml, hown, hts⟩ (kX8_within l D cI cZ cO p0 0 11) (va_cwS 3 hts gX8_isCell_X8_within rfl rfl rfl (by decide +kernel) ⟨Nat.le_of_ble_eq_true rfl, Nat.le_of_ble_eq_true rfl⟩) (q_rS hE q_nil) rfl rfl hl.1 rfl (lv_room (Nat.le_of_ble_eq_true rfl)) dX8_isCell_4 ⟨Nat.le_of_ble_eq_true rfl, Nat.le_of_ble_eq_true rfl⟩) (fun b1 => ?_)
  exact W.zret (v := xX8_within p0 0 11) (ty := .boolean) hx hb hr b1 (fun t e1 hW => ⟨_, rfl, ⟨ht, b1⟩, e1⟩) (fun q h => absurd h List.not_mem_nil) dX8_isCell_7
abbrev rmX8_isReader : Room := { frames := 1, cells := 0, slots := 0, locals := 22 }
set_option maxHeartbeats 4000000 in
set_option maxRecDepth 100000 in
theorem kX8_isReader (l : Launch) (D : va_G) (cI cZ cO : ClassId) (p0 : Int32) : Met l yX8_isReader wsX8_isReader rmX8_isReader (q_PR D cI cZ cO [.int p0] ([] : va_W)) (vp_Si (fun x => x = xX8_isReader p0 ∧ narrow .boolean (.int x) = .int x)) 0 0 (fun _ => False) := by
  refine Met.ofW (cc := cX8_isReader) (maxL := 1) (ret := (some .boolean)) (by decide) rfl ?_
  intro p e s m args below meth c s₁ B hml hv
  obtain ⟨rfl, hE, hP⟩ := hv
  have hx := B.exec
  have hb := B.bytes
  have hr := B.returns
  have hts := atoms_spec (ws := wsX8_isReader) B.pre
  have hown : s.vm.findClass RX8 = some m.cls := findClass_of_methodNamed B.named
  have hlocks := B.notSynchronized
  have hl := lv_entry ([.int p0]) (n := 1) (Nat.le_of_ble_eq_true rfl)
  rw [lg_entry_eq]
  generalize (lg_sl ([.int p0]) ++ List.replicate (1 - (lg_sl ([.int p0])).length) Slot.unset).toArray = ls at hl ⊢
  have hl : lv_has ls 1 [(0, .int p0)] := hl
  have ht := xX8_isReader_s p0
  obtain ⟨tg, htg⟩ : ∃ z, z = xX8_isReader p0 := ⟨_, rfl⟩
  rw [← htg] at ht ⊢
  have ht := ht.symm
  refine lv_iload_n hx hb dX8_isReader_0 rfl (lv_at hl 0 rfl) ?_
  refine lv_iconst (v := 0) hx hb dX8_isReader_1 (by decide) ?_
  refine lv_iconst (v := 3) hx hb dX8_isReader_2 (by decide) ?_
  refine q_ri (va_runS (As := [.int p0, .int 0, .int 3]) (rest := []) ⟨hx, hb, hml, hown, hts⟩ (kX8_within l D cI cZ cO p0 0 3) (va_cwS 3 hts gX8_isReader_X8_within rfl rfl rfl (by decide +kernel) ⟨Nat.le_of_ble_eq_true rfl, Nat.le_of_ble_eq_true rfl⟩) (q_rS hE q_nil) rfl rfl hl.1 rfl (lv_room (Nat.le_of_ble_eq_true rfl)) dX8_isReader_3 ⟨Nat.le_of_ble_eq_true rfl, Nat.le_of_ble_eq_true rfl⟩) (fun b1 => ?_)
  exact W.zret (v := xX8_within p0 0 3) (ty := .boolean) hx hb hr b1 (fun t e1 hW => ⟨_, rfl, ⟨ht, b1⟩, e1⟩) (fun q h => absurd h List.not_mem_nil) dX8_isReader_6
abbrev rmX0_isSound : Room := { frames := 2, cells := 0, slots := 0, locals := 42 }
set_option maxHeartbeats 4000000 in
set_option maxRecDepth 100000 in
theorem kX0_isSound (l : Launch) (D : va_G) (cI cZ cO : ClassId) (d0 : Nat → Nat) (S0 : St) (tg : Int32) (ht : xX0_isSound S0 = some tg) : Met l yX0_isSound wsX0_isSound rmX0_isSound (q_PR D cI cZ cO [.ref (d0 0)] (wg0 cI cZ d0 S0)) (vp_Si (fun x => x = tg ∧ narrow .boolean (.int x) = .int x)) 0 0 (fun _ => False) := by
  refine Met.ofW (cc := cX0_isSound) (maxL := 1) (ret := (some .boolean)) (by decide) rfl ?_
  intro p e s m args below meth c s₁ B hml hv
  obtain ⟨rfl, hE, hP⟩ := hv
  have hx := B.exec
  have hb := B.bytes
  have hr := B.returns
  have hts := atoms_spec (ws := wsX0_isSound) B.pre
  have hown : s.vm.findClass RX0 = some m.cls := findClass_of_methodNamed B.named
  have hlocks := B.notSynchronized
  have hi0 : ∀ w ∈ u_ws RX0 TX0 3, w ∈ wsX0_isSound := by decide +kernel
  have hw0 := hts (.fieldLink RX0 9 "HailNames$Act" "kind" "I") (by decide +kernel)
  have hw1 := hts (.fieldLink RX0 15 "HailNames$Act" "who" "I") (by decide +kernel)
  have hw2 := hts (.initialized RX8) (by decide +kernel)
  have hw3 := hts (.static yX8_isPerson) (by decide +kernel)
  have hw4 := hts (.fieldLink RX0 18 "HailNames$Act" "whom" "I") (by decide +kernel)
  have hw5 := hts (.static yX8_isCell) (by decide +kernel)
  have hw6 := hts (.static yX8_isReader) (by decide +kernel)
  have hl := lv_entry ([.ref (d0 0)]) (n := 1) (Nat.le_of_ble_eq_true rfl)
  rw [lg_entry_eq]
  generalize (lg_sl ([.ref (d0 0)]) ++ List.replicate (1 - (lg_sl ([.ref (d0 0)])).length) Slot.unset).toArray = ls at hl ⊢
  have hl : lv_has ls 1 [(0, .ref (d0 0))] := hl
  have ht := (xX0_isSound_s S0).symm.trans ht
  refine lv_aload_n hx hb dX0_isSound_0 rfl (lv_at hl 0 rfl) ?_
  refine va_get (D := D) (ci := 0) (v := .int (S0 0 0)) (C := RX0) (T := TX0) (N := 3) hx hb hts hi0 hown hE.1 hP 0 rfl rfl 0 (by decide) hw0 (fun _ h9 => h9) rfl dX0_isSound_1 ?_
  by_cases c1 : S0 0 0 = 0
  · have ht := it_p c1 ht
    refine lv_tableIn (tgt := 36) hx hb dX0_isSound_4 (by rw [c1]; decide) (by rw [c1]; decide) (by rw [c1]; rfl) (by decide) ?_
    refine lv_aload_n hx hb dX0_isSound_36 rfl (lv_at hl 0 rfl) ?_
    refine va_get (D := D) (ci := 0) (v := .int (S0 1 0)) (C := RX0) (T := TX0) (N := 3) hx hb hts hi0 hown hE.1 hP 0 rfl rfl 1 (by decide) hw1 (fun _ h9 => h9) rfl dX0_isSound_37 ?_
    refine q_ri (va_runSN (As := [.int (S0 1 0)]) (rest := []) ⟨hx, hb, hml, hown, hts⟩ (kX8_isPerson l D cI cZ cO (S0 1 0)) ⟨va_cnB 1 hts gX0_isSound_X8_isPerson_n21 rfl rfl rfl hE.2.2.2.2.2.2.2.2.2.2.2.2.1 hw2 (by decide +kernel) ⟨Nat.le_of_ble_eq_true rfl, Nat.le_of_ble_eq_true rfl⟩, hw3, trivial⟩ (q_rS hE q_nil) rfl rfl hl.1 rfl (lv_room (Nat.le_of_ble_eq_true rfl)) dX0_isSound_40 ⟨Nat.le_of_ble_eq_true rfl, Nat.le_of_ble_eq_true rfl⟩) (fun b2 => ?_)
    refine lv_if_eq (tgt := 60) hx hb dX0_isSound_43 (by decide) (fun c3 => ?_) (fun c3 => ?_)
    · have ht := it_p c3 ht
      refine lv_iconst (v := 0) hx hb dX0_isSound_60 (by decide) ?_
      have ht := Option.some.inj ht
      exact W.zret (v := 0) (ty := .boolean) hx hb hr (by decide +kernel) (fun t e1 hW => ⟨_, rfl, ⟨ht, (by decide +kernel)⟩, e1⟩) (fun q h => absurd h List.not_mem_nil) dX0_isSound_61
    · have ht := it_n c3 ht
      refine lv_aload_n hx hb dX0_isSound_46 rfl (lv_at hl 0 rfl) ?_
      refine va_get (D := D) (ci := 0) (v := .int (S0 2 0)) (C := RX0) (T := TX0) (N := 3) hx hb hts hi0 hown hE.1 hP 0 rfl rfl 2 (by decide) hw4 (fun _ h9 => h9) rfl dX0_isSound_47 ?_
      refine q_ri (va_runSN (As := [.int (S0 2 0)]) (rest := []) ⟨hx, hb, hml, hown, hts⟩ (kX8_isPerson l D cI cZ cO (S0 2 0)) ⟨va_cnB 1 hts gX0_isSound_X8_isPerson_n21 rfl rfl rfl hE.2.2.2.2.2.2.2.2.2.2.2.2.1 hw2 (by decide +kernel) ⟨Nat.le_of_ble_eq_true rfl, Nat.le_of_ble_eq_true rfl⟩, hw3, trivial⟩ (q_rS hE q_nil) rfl rfl hl.1 rfl (lv_room (Nat.le_of_ble_eq_true rfl)) dX0_isSound_50 ⟨Nat.le_of_ble_eq_true rfl, Nat.le_of_ble_eq_true rfl⟩) (fun b4 => ?_)
      refine lv_if_eq (tgt := 60) hx hb dX0_isSound_53 (by decide) (fun c5 => ?_) (fun c5 => ?_)
      · have ht := it_p c5 ht
        refine lv_iconst (v := 0) hx hb dX0_isSound_60 (by decide) ?_
        have ht := Option.some.inj ht
        exact W.zret (v := 0) (ty := .boolean) hx hb hr (by decide +kernel) (fun t e1 hW => ⟨_, rfl, ⟨ht, (by decide +kernel)⟩, e1⟩) (fun q h => absurd h List.not_mem_nil) dX0_isSound_61
      · have ht := it_n c5 ht
        refine lv_iconst (v := 1) hx hb dX0_isSound_56 (by decide) ?_
        refine lv_goto (tgt := 61) hx hb dX0_isSound_57 (by decide) ?_
        have ht := Option.some.inj ht
        exact W.zret (v := 1) (ty := .boolean) hx hb hr (by decide +kernel) (fun t e1 hW => ⟨_, rfl, ⟨ht, (by decide +kernel)⟩, e1⟩) (fun q h => absurd h List.not_mem_nil) dX0_isSound_61
  have ht := it_n c1 ht
  by_cases c6 : S0 0 0 = 1
  · have ht := it_p c6 ht
    refine lv_tableIn (tgt := 62) hx hb dX0_isSound_4 (by rw [c6]; decide) (by rw [c6]; decide) (by rw [c6]; rfl) (by decide) ?_
    refine lv_aload_n hx hb dX0_isSound_62 rfl (lv_at hl 0 rfl) ?_
    refine va_get (D := D) (ci := 0) (v := .int (S0 1 0)) (C := RX0) (T := TX0) (N := 3) hx hb hts hi0 hown hE.1 hP 0 rfl rfl 1 (by decide) hw1 (fun _ h9 => h9) rfl dX0_isSound_63 ?_
    refine q_ri (va_runSN (As := [.int (S0 1 0)]) (rest := []) ⟨hx, hb, hml, hown, hts⟩ (kX8_isPerson l D cI cZ cO (S0 1 0)) ⟨va_cnB 1 hts gX0_isSound_X8_isPerson_n21 rfl rfl rfl hE.2.2.2.2.2.2.2.2.2.2.2.2.1 hw2 (by decide +kernel) ⟨Nat.le_of_ble_eq_true rfl, Nat.le_of_ble_eq_true rfl⟩, hw3, trivial⟩ (q_rS hE q_nil) rfl rfl hl.1 rfl (lv_room (Nat.le_of_ble_eq_true rfl)) dX0_isSound_66 ⟨Nat.le_of_ble_eq_true rfl, Nat.le_of_ble_eq_true rfl⟩) (fun b7 => ?_)
    refine lv_if_eq (tgt := 86) hx hb dX0_isSound_69 (by decide) (fun c8 => ?_) (fun c8 => ?_)
    · have ht := it_p c8 ht
      refine lv_iconst (v := 0) hx hb dX0_isSound_86 (by decide) ?_
      have ht := Option.some.inj ht
      exact W.zret (v := 0) (ty := .boolean) hx hb hr (by decide +kernel) (fun t e1 hW => ⟨_, rfl, ⟨ht, (by decide +kernel)⟩, e1⟩) (fun q h => absurd h List.not_mem_nil) dX0_isSound_87
    · have ht := it_n c8 ht
      refine lv_aload_n hx hb dX0_isSound_72 rfl (lv_at hl 0 rfl) ?_
      refine va_get (D := D) (ci := 0) (v := .int (S0 2 0)) (C := RX0) (T := TX0) (N := 3) hx hb hts hi0 hown hE.1 hP 0 rfl rfl 2 (by decide) hw4 (fun _ h9 => h9) rfl dX0_isSound_73 ?_
      refine q_ri (va_runSN (As := [.int (S0 2 0)]) (rest := []) ⟨hx, hb, hml, hown, hts⟩ (kX8_isCell l D cI cZ cO (S0 2 0)) ⟨va_cnB 1 hts gX0_isSound_X8_isCell_n25 rfl rfl rfl hE.2.2.2.2.2.2.2.2.2.2.2.2.2.1 hw2 (by decide +kernel) ⟨Nat.le_of_ble_eq_true rfl, Nat.le_of_ble_eq_true rfl⟩, hw5, trivial⟩ (q_rS hE q_nil) rfl rfl hl.1 rfl (lv_room (Nat.le_of_ble_eq_true rfl)) dX0_isSound_76 ⟨Nat.le_of_ble_eq_true rfl, Nat.le_of_ble_eq_true rfl⟩) (fun b9 => ?_)
      refine lv_if_eq (tgt := 86) hx hb dX0_isSound_79 (by decide) (fun c10 => ?_) (fun c10 => ?_)
      · have ht := it_p c10 ht
        refine lv_iconst (v := 0) hx hb dX0_isSound_86 (by decide) ?_
        have ht := Option.some.inj ht
        exact W.zret (v := 0) (ty := .boolean) hx hb hr (by decide +kernel) (fun t e1 hW => ⟨_, rfl, ⟨ht, (by decide +kernel)⟩, e1⟩) (fun q h => absurd h List.not_mem_nil) dX0_isSound_87
      · have ht := it_n c10 ht
        refine lv_iconst (v := 1) hx hb dX0_isSound_82 (by decide) ?_
        refine lv_goto (tgt := 87) hx hb dX0_isSound_83 (by decide) ?_
        have ht := Option.some.inj ht
        exact W.zret (v := 1) (ty := .boolean) hx hb hr (by decide +kernel) (fun t e1 hW => ⟨_, rfl, ⟨ht, (by decide +kernel)⟩, e1⟩) (fun q h => absurd h List.not_mem_nil) dX0_isSound_87
  have ht := it_n c6 ht
  by_cases c11 : S0 0 0 = 2
  · have ht := it_p c11 ht
    refine lv_tableIn (tgt := 88) hx hb dX0_isSound_4 (by rw [c11]; decide) (by rw [c11]; decide) (by rw [c11]; rfl) (by decide) ?_
    refine lv_aload_n hx hb dX0_isSound_88 rfl (lv_at hl 0 rfl) ?_
    refine va_get (D := D) (ci := 0) (v := .int (S0 1 0)) (C := RX0) (T := TX0) (N := 3) hx hb hts hi0 hown hE.1 hP 0 rfl rfl 1 (by decide) hw1 (fun _ h9 => h9) rfl dX0_isSound_89 ?_
    refine q_ri (va_runSN (As := [.int (S0 1 0)]) (rest := []) ⟨hx, hb, hml, hown, hts⟩ (kX8_isReader l D cI cZ cO (S0 1 0)) ⟨va_cnB 1 hts gX0_isSound_X8_isReader_n28 rfl rfl rfl hE.2.2.2.2.2.2.2.2.2.2.2.2.2.2.1 hw2 (by decide +kernel) ⟨Nat.le_of_ble_eq_true rfl, Nat.le_of_ble_eq_true rfl⟩, hw6, trivial⟩ (q_rS hE q_nil) rfl rfl hl.1 rfl (lv_room (Nat.le_of_ble_eq_true rfl)) dX0_isSound_92 ⟨Nat.le_of_ble_eq_true rfl, Nat.le_of_ble_eq_true rfl⟩) (fun b12 => ?_)
    refine lv_if_eq (tgt := 118) hx hb dX0_isSound_95 (by decide) (fun c13 => ?_) (fun c13 => ?_)
    · have ht := it_p c13 ht
      refine lv_iconst (v := 0) hx hb dX0_isSound_118 (by decide) ?_
      have ht := Option.some.inj ht
      exact W.zret (v := 0) (ty := .boolean) hx hb hr (by decide +kernel) (fun t e1 hW => ⟨_, rfl, ⟨ht, (by decide +kernel)⟩, e1⟩) (fun q h => absurd h List.not_mem_nil) dX0_isSound_119
    · have ht := it_n c13 ht
      refine lv_aload_n hx hb dX0_isSound_98 rfl (lv_at hl 0 rfl) ?_
      refine va_get (D := D) (ci := 0) (v := .int (S0 2 0)) (C := RX0) (T := TX0) (N := 3) hx hb hts hi0 hown hE.1 hP 0 rfl rfl 2 (by decide) hw4 (fun _ h9 => h9) rfl dX0_isSound_99 ?_
      refine lv_iconst (v := 1) hx hb dX0_isSound_102 (by decide) ?_
      refine lv_icmp_eq (tgt := 114) hx hb dX0_isSound_103 (by decide) (fun c14 => ?_) (fun c14 => ?_)
      · have ht := it_p c14 ht
        refine lv_iconst (v := 1) hx hb dX0_isSound_114 (by decide) ?_
        refine lv_goto (tgt := 119) hx hb dX0_isSound_115 (by decide) ?_
        have ht := Option.some.inj ht
        exact W.zret (v := 1) (ty := .boolean) hx hb hr (by decide +kernel) (fun t e1 hW => ⟨_, rfl, ⟨ht, (by decide +kernel)⟩, e1⟩) (fun q h => absurd h List.not_mem_nil) dX0_isSound_119
      · have ht := it_n c14 ht
        refine lv_aload_n hx hb dX0_isSound_106 rfl (lv_at hl 0 rfl) ?_
        refine va_get (D := D) (ci := 0) (v := .int (S0 2 0)) (C := RX0) (T := TX0) (N := 3) hx hb hts hi0 hown hE.1 hP 0 rfl rfl 2 (by decide) hw4 (fun _ h9 => h9) rfl dX0_isSound_107 ?_
        refine lv_iconst (v := (-1)) hx hb dX0_isSound_110 (by decide) ?_
        refine lv_icmp_ne (tgt := 118) hx hb dX0_isSound_111 (by decide) (fun c15 => ?_) (fun c15 => ?_)
        · have ht := it_n c15 ht
          refine lv_iconst (v := 0) hx hb dX0_isSound_118 (by decide) ?_
          have ht := Option.some.inj ht
          exact W.zret (v := 0) (ty := .boolean) hx hb hr (by decide +kernel) (fun t e1 hW => ⟨_, rfl, ⟨ht, (by decide +kernel)⟩, e1⟩) (fun q h => absurd h List.not_mem_nil) dX0_isSound_119
        · have ht := it_p c15 ht
          refine lv_iconst (v := 1) hx hb dX0_isSound_114 (by decide) ?_
          refine lv_goto (tgt := 119) hx hb dX0_isSound_115 (by decide) ?_
          have ht := Option.some.inj ht
          exact W.zret (v := 1) (ty := .boolean) hx hb hr (by decide +kernel) (fun t e1 hW => ⟨_, rfl, ⟨ht, (by decide +kernel)⟩, e1⟩) (fun q h => absurd h List.not_mem_nil) dX0_isSound_119
  have ht := it_n c11 ht
  by_cases c16 : S0 0 0 = 3
  · have ht := it_p c16 ht
    refine lv_tableIn (tgt := 120) hx hb dX0_isSound_4 (by rw [c16]; decide) (by rw [c16]; decide) (by rw [c16]; rfl) (by decide) ?_
    refine lv_aload_n hx hb dX0_isSound_120 rfl (lv_at hl 0 rfl) ?_
    refine va_get (D := D) (ci := 0) (v := .int (S0 1 0)) (C := RX0) (T := TX0) (N := 3) hx hb hts hi0 hown hE.1 hP 0 rfl rfl 1 (by decide) hw1 (fun _ h9 => h9) rfl dX0_isSound_121 ?_
    refine q_ri (va_runSN (As := [.int (S0 1 0)]) (rest := []) ⟨hx, hb, hml, hown, hts⟩ (kX8_isReader l D cI cZ cO (S0 1 0)) ⟨va_cnB 1 hts gX0_isSound_X8_isReader_n28 rfl rfl rfl hE.2.2.2.2.2.2.2.2.2.2.2.2.2.2.1 hw2 (by decide +kernel) ⟨Nat.le_of_ble_eq_true rfl, Nat.le_of_ble_eq_true rfl⟩, hw6, trivial⟩ (q_rS hE q_nil) rfl rfl hl.1 rfl (lv_room (Nat.le_of_ble_eq_true rfl)) dX0_isSound_124 ⟨Nat.le_of_ble_eq_true rfl, Nat.le_of_ble_eq_true rfl⟩) (fun b17 => ?_)
    refine lv_if_eq (tgt := 144) hx hb dX0_isSound_127 (by decide) (fun c18 => ?_) (fun c18 => ?_)
    · have ht := it_p c18 ht
      refine lv_iconst (v := 0) hx hb dX0_isSound_144 (by decide) ?_
      have ht := Option.some.inj ht
      exact W.zret (v := 0) (ty := .boolean) hx hb hr (by decide +kernel) (fun t e1 hW => ⟨_, rfl, ⟨ht, (by decide +kernel)⟩, e1⟩) (fun q h => absurd h List.not_mem_nil) dX0_isSound_145
    · have ht := it_n c18 ht
      refine lv_aload_n hx hb dX0_isSound_130 rfl (lv_at hl 0 rfl) ?_
      refine va_get (D := D) (ci := 0) (v := .int (S0 2 0)) (C := RX0) (T := TX0) (N := 3) hx hb hts hi0 hown hE.1 hP 0 rfl rfl 2 (by decide) hw4 (fun _ h9 => h9) rfl dX0_isSound_131 ?_
      refine q_ri (va_runSN (As := [.int (S0 2 0)]) (rest := []) ⟨hx, hb, hml, hown, hts⟩ (kX8_isPerson l D cI cZ cO (S0 2 0)) ⟨va_cnB 1 hts gX0_isSound_X8_isPerson_n21 rfl rfl rfl hE.2.2.2.2.2.2.2.2.2.2.2.2.1 hw2 (by decide +kernel) ⟨Nat.le_of_ble_eq_true rfl, Nat.le_of_ble_eq_true rfl⟩, hw3, trivial⟩ (q_rS hE q_nil) rfl rfl hl.1 rfl (lv_room (Nat.le_of_ble_eq_true rfl)) dX0_isSound_134 ⟨Nat.le_of_ble_eq_true rfl, Nat.le_of_ble_eq_true rfl⟩) (fun b19 => ?_)
      refine lv_if_eq (tgt := 144) hx hb dX0_isSound_137 (by decide) (fun c20 => ?_) (fun c20 => ?_)
      · have ht := it_p c20 ht
        refine lv_iconst (v := 0) hx hb dX0_isSound_144 (by decide) ?_
        have ht := Option.some.inj ht
        exact W.zret (v := 0) (ty := .boolean) hx hb hr (by decide +kernel) (fun t e1 hW => ⟨_, rfl, ⟨ht, (by decide +kernel)⟩, e1⟩) (fun q h => absurd h List.not_mem_nil) dX0_isSound_145
      · have ht := it_n c20 ht
        refine lv_iconst (v := 1) hx hb dX0_isSound_140 (by decide) ?_
        refine lv_goto (tgt := 145) hx hb dX0_isSound_141 (by decide) ?_
        have ht := Option.some.inj ht
        exact W.zret (v := 1) (ty := .boolean) hx hb hr (by decide +kernel) (fun t e1 hW => ⟨_, rfl, ⟨ht, (by decide +kernel)⟩, e1⟩) (fun q h => absurd h List.not_mem_nil) dX0_isSound_145
  have ht := it_n c16 ht
  refine lv_tableOut (tgt := 146) hx hb dX0_isSound_4 (by have n0 := lv_neT c1 (show (0 : Int32).toInt = 0 by decide); have n1 := lv_neT c6 (show (1 : Int32).toInt = 1 by decide); have n2 := lv_neT c11 (show (2 : Int32).toInt = 2 by decide); have n3 := lv_neT c16 (show (3 : Int32).toInt = 3 by decide); omega) (by decide) ?_
  refine lv_aload_n hx hb dX0_isSound_146 rfl (lv_at hl 0 rfl) ?_
  refine va_get (D := D) (ci := 0) (v := .int (S0 0 0)) (C := RX0) (T := TX0) (N := 3) hx hb hts hi0 hown hE.1 hP 0 rfl rfl 0 (by decide) hw0 (fun _ h9 => h9) rfl dX0_isSound_147 ?_
  refine lv_iconst (v := 4) hx hb dX0_isSound_150 (by decide) ?_
  refine lv_icmp_ne (tgt := 158) hx hb dX0_isSound_151 (by decide) (fun c21 => ?_) (fun c21 => ?_)
  · have ht := it_n c21 ht
    refine lv_iconst (v := 0) hx hb dX0_isSound_158 (by decide) ?_
    have ht := Option.some.inj ht
    exact W.zret (v := 0) (ty := .boolean) hx hb hr (by decide +kernel) (fun t e1 hW => ⟨_, rfl, ⟨ht, (by decide +kernel)⟩, e1⟩) (fun q h => absurd h List.not_mem_nil) dX0_isSound_159
  · have ht := it_p c21 ht
    refine lv_iconst (v := 1) hx hb dX0_isSound_154 (by decide) ?_
    refine lv_goto (tgt := 159) hx hb dX0_isSound_155 (by decide) ?_
    have ht := Option.some.inj ht
    exact W.zret (v := 1) (ty := .boolean) hx hb hr (by decide +kernel) (fun t e1 hW => ⟨_, rfl, ⟨ht, (by decide +kernel)⟩, e1⟩) (fun q h => absurd h List.not_mem_nil) dX0_isSound_159
abbrev rmX0_setByDraw : Room := { frames := 1, cells := 0, slots := 0, locals := 23 }
set_option maxHeartbeats 4000000 in
set_option maxRecDepth 100000 in
theorem kX0_setByDraw (l : Launch) (D : va_G) (cI cZ cO : ClassId) (d0 : Nat → Nat) (sz : Nat) (S0 : St) (p0 : Int32) (tg : St) (ht : xX0_setByDraw p0 S0 = some tg) : Met l yX0_setByDraw wsX0_setByDraw rmX0_setByDraw (q_PM D cI cZ cO [.ref (d0 0), .int p0] sz (wg0 cI cZ d0 S0)) (va_Qv (fun _ : Unit => True) (fun _ t => va_P D vwCl (wg0 cI cZ d0 tg) t.heap) (va_A (wg0 cI cZ d0 S0) sz)) 0 0 (va_A (wg0 cI cZ d0 S0) sz) := by
  refine Met.ofW (cc := cX0_setByDraw) (maxL := 3) (ret := none) (by decide) rfl ?_
  intro p e s m args below meth c s₁ B hml hv
  obtain ⟨rfl, hsz, hE, hP, hD0⟩ := hv
  have hx := B.exec
  have hb := B.bytes
  have hr := B.returns
  have hts := atoms_spec (ws := wsX0_setByDraw) B.pre
  have hown : s.vm.findClass RX0 = some m.cls := findClass_of_methodNamed B.named
  have hlocks := B.notSynchronized
  subst hsz
  have hD1 := hD0.self (sz := s.heap.size)
  generalize hAe : va_A (wg0 cI cZ d0 S0) s.heap.size = A at hD1 ⊢
  have hA : ∀ q : Nat, s.heap.size ≤ q → A q := fun q h => by rw [← hAe]; exact Or.inr h
  have hS : va_S A s.heap s.heap [] := va_S.rf
  have hD : ∀ (S0 : St), va_D A (wg0 cI cZ d0 S0) := fun S0 => q_D hD1 rfl
  have hl := lv_entry ([.ref (d0 0), .int p0]) (n := 3) (Nat.le_of_ble_eq_true rfl)
  rw [lg_entry_eq]
  generalize (lg_sl ([.ref (d0 0), .int p0]) ++ List.replicate (3 - (lg_sl ([.ref (d0 0), .int p0])).length) Slot.unset).toArray = ls at hl ⊢
  have hl : lv_has ls 3 [(0, .ref (d0 0)), (1, .int p0)] := hl
  have ht := (xX0_setByDraw_s p0 S0).symm.trans ht
  obtain ⟨Q, hQ⟩ : ∃ Q, Q = MQ below (va_Qv (fun _ : Unit => True) (fun _ t => va_P D vwCl (wg0 cI cZ d0 tg) t.heap) A) ([.ref (d0 0), .int p0] : List Value).toArray s 0 0 A := ⟨_, rfl⟩
  rw [← hQ]
  have J104 : ∀ (z1 : Int32) (z2 : Int32) (z3 : Int32) (S0 : St) (H : Heap) (locs : List Loc) (_ : va_P D vwCl (wg0 cI cZ d0 S0) H) (_ : va_S A s.heap H locs) (ls : Array Slot) (_ : lv_has ls 3 []) (_ : xX0_setByDraw_h104 p0 z1 z2 z3 S0 = some tg), W p l e (headSpec wsX0_setByDraw rmX0_setByDraw).room s m ([.ref (d0 0), .int p0] : List Value).toArray below meth c H locs 0 0 Q (F0 m 104 ls [.int z3, .int z2, .int z1, .ref (d0 0)]) := by
    intro z1 z2 z3 S0 H locs hP hS ls hl ht
    have ht := (xX0_setByDraw_h104_s p0 z1 z2 z3 S0).symm.trans ht
    obtain ⟨q14, hq14, ht⟩ := it_b ht
    have hFc := q_freeW (hD S0) hS hA
    refine q_mv (va_runV (As := [.int z1, .int z2, .int z3]) (rest := []) ⟨hx, hb, hml, hown, hts⟩ (kX0_set l D cI cZ cO d0 H.size S0 z1 z2 z3 q14 hq14) (cwV 3 hts gX0_setByDraw_X0_set rfl rfl rfl (by decide +kernel) ⟨Nat.le_of_ble_eq_true rfl, Nat.le_of_ble_eq_true rfl⟩) (q_mV (As := [.int z1, .int z2, .int z3]) hE hP (hD S0) (q0 := 0) (ci := 0) rfl rfl) rfl rfl hl.1 rfl (lv_room (Nat.le_of_ble_eq_true rfl)) dX0_setByDraw_104 ⟨Nat.le_of_ble_eq_true rfl, Nat.le_of_ble_eq_true rfl⟩) hS hFc (fun H locs hP1 hk hS => ?_)
    have hP : va_P D vwCl (wg0 cI cZ d0 q14) H := hP1
    refine lv_goto (tgt := 134) hx hb dX0_setByDraw_107 (by decide) ?_
    subst hQ
    obtain rfl := Option.some.inj ht
    exact W.vret hx hb hr (fun t e1 hW => ⟨⟨(), rfl, trivial, q_at e1 hP⟩, hS.F e1⟩) hS.2.2 dX0_setByDraw_134
  refine lv_iload_n hx hb dX0_setByDraw_0 rfl (lv_at hl 1 rfl) ?_
  refine lv_bipush (v := 8) hx hb dX0_setByDraw_1 (by decide) ?_
  refine lv_idiv hx hb dX0_setByDraw_3 (by decide +kernel) ?_
  refine lv_istore_n (lv' := [(2, .int (p0 / 8)), (0, .ref (d0 0)), (1, .int p0)]) hx hb dX0_setByDraw_4 rfl hl (by decide) rfl (fun ls hl => ?_)
  refine lv_iload_n hx hb dX0_setByDraw_5 rfl (lv_at hl 2 rfl) ?_
  refine lv_bipush (v := 8) hx hb dX0_setByDraw_6 (by decide) ?_
  refine q_irem hx hb dX0_setByDraw_8 (by decide +kernel) ?_
  by_cases c1 : q_rem p0 8 = 0
  · have ht := it_p c1 ht
    refine lv_tableIn (tgt := 48) hx hb dX0_setByDraw_9 (by rw [c1]; decide) (by rw [c1]; decide) (by rw [c1]; rfl) (by decide) ?_
    refine lv_aload_n hx hb dX0_setByDraw_48 rfl (lv_at hl 1 rfl) ?_
    refine lv_iconst (v := 0) hx hb dX0_setByDraw_49 (by decide) ?_
    refine lv_iload_n hx hb dX0_setByDraw_50 rfl (lv_at hl 0 rfl) ?_
    refine lv_bipush (v := 8) hx hb dX0_setByDraw_51 (by decide) ?_
    refine q_irem hx hb dX0_setByDraw_53 (by decide +kernel) ?_
    refine lv_iload_n hx hb dX0_setByDraw_54 rfl (lv_at hl 0 rfl) ?_
    refine lv_bipush (v := 8) hx hb dX0_setByDraw_55 (by decide) ?_
    refine lv_idiv hx hb dX0_setByDraw_57 (by decide +kernel) ?_
    refine lv_bipush (v := 8) hx hb dX0_setByDraw_58 (by decide) ?_
    refine q_irem hx hb dX0_setByDraw_60 (by decide +kernel) ?_
    obtain ⟨q2, hq2, ht⟩ := it_b ht
    have hFc := q_freeW (hD S0) hS hA
    refine q_mv (va_runV (As := [.int 0, .int (q_rem (p0 / 8) 8), .int (q_rem ((p0 / 8) / 8) 8)]) (rest := []) ⟨hx, hb, hml, hown, hts⟩ (kX0_set l D cI cZ cO d0 s.heap.size S0 0 (q_rem (p0 / 8) 8) (q_rem ((p0 / 8) / 8) 8) q2 hq2) (cwV 3 hts gX0_setByDraw_X0_set rfl rfl rfl (by decide +kernel) ⟨Nat.le_of_ble_eq_true rfl, Nat.le_of_ble_eq_true rfl⟩) (q_mV (As := [.int 0, .int (q_rem (p0 / 8) 8), .int (q_rem ((p0 / 8) / 8) 8)]) hE hP (hD S0) (q0 := 0) (ci := 0) rfl rfl) rfl rfl hl.1 rfl (lv_room (Nat.le_of_ble_eq_true rfl)) dX0_setByDraw_61 ⟨Nat.le_of_ble_eq_true rfl, Nat.le_of_ble_eq_true rfl⟩) hS hFc (fun H locs hP1 hk hS => ?_)
    have hP : va_P D vwCl (wg0 cI cZ d0 q2) H := hP1
    refine lv_goto (tgt := 134) hx hb dX0_setByDraw_64 (by decide) ?_
    subst hQ
    obtain rfl := Option.some.inj ht
    exact W.vret hx hb hr (fun t e1 hW => ⟨⟨(), rfl, trivial, q_at e1 hP⟩, hS.F e1⟩) hS.2.2 dX0_setByDraw_134
  have ht := it_n c1 ht
  by_cases c3 : q_rem p0 8 = 1
  · have ht := it_p c3 ht
    refine lv_tableIn (tgt := 48) hx hb dX0_setByDraw_9 (by rw [c3]; decide) (by rw [c3]; decide) (by rw [c3]; rfl) (by decide) ?_
    refine lv_aload_n hx hb dX0_setByDraw_48 rfl (lv_at hl 1 rfl) ?_
    refine lv_iconst (v := 0) hx hb dX0_setByDraw_49 (by decide) ?_
    refine lv_iload_n hx hb dX0_setByDraw_50 rfl (lv_at hl 0 rfl) ?_
    refine lv_bipush (v := 8) hx hb dX0_setByDraw_51 (by decide) ?_
    refine q_irem hx hb dX0_setByDraw_53 (by decide +kernel) ?_
    refine lv_iload_n hx hb dX0_setByDraw_54 rfl (lv_at hl 0 rfl) ?_
    refine lv_bipush (v := 8) hx hb dX0_setByDraw_55 (by decide) ?_
    refine lv_idiv hx hb dX0_setByDraw_57 (by decide +kernel) ?_
    refine lv_bipush (v := 8) hx hb dX0_setByDraw_58 (by decide) ?_
    refine q_irem hx hb dX0_setByDraw_60 (by decide +kernel) ?_
    obtain ⟨q4, hq4, ht⟩ := it_b ht
    have hFc := q_freeW (hD S0) hS hA
    refine q_mv (va_runV (As := [.int 0, .int (q_rem (p0 / 8) 8), .int (q_rem ((p0 / 8) / 8) 8)]) (rest := []) ⟨hx, hb, hml, hown, hts⟩ (kX0_set l D cI cZ cO d0 s.heap.size S0 0 (q_rem (p0 / 8) 8) (q_rem ((p0 / 8) / 8) 8) q4 hq4) (cwV 3 hts gX0_setByDraw_X0_set rfl rfl rfl (by decide +kernel) ⟨Nat.le_of_ble_eq_true rfl, Nat.le_of_ble_eq_true rfl⟩) (q_mV (As := [.int 0, .int (q_rem (p0 / 8) 8), .int (q_rem ((p0 / 8) / 8) 8)]) hE hP (hD S0) (q0 := 0) (ci := 0) rfl rfl) rfl rfl hl.1 rfl (lv_room (Nat.le_of_ble_eq_true rfl)) dX0_setByDraw_61 ⟨Nat.le_of_ble_eq_true rfl, Nat.le_of_ble_eq_true rfl⟩) hS hFc (fun H locs hP1 hk hS => ?_)
    have hP : va_P D vwCl (wg0 cI cZ d0 q4) H := hP1
    refine lv_goto (tgt := 134) hx hb dX0_setByDraw_64 (by decide) ?_
    subst hQ
    obtain rfl := Option.some.inj ht
    exact W.vret hx hb hr (fun t e1 hW => ⟨⟨(), rfl, trivial, q_at e1 hP⟩, hS.F e1⟩) hS.2.2 dX0_setByDraw_134
  have ht := it_n c3 ht
  by_cases c5 : q_rem p0 8 = 2
  · have ht := it_p c5 ht
    refine lv_tableIn (tgt := 67) hx hb dX0_setByDraw_9 (by rw [c5]; decide) (by rw [c5]; decide) (by rw [c5]; rfl) (by decide) ?_
    refine lv_aload_n hx hb dX0_setByDraw_67 rfl (lv_at hl 1 rfl) ?_
    refine lv_iconst (v := 1) hx hb dX0_setByDraw_68 (by decide) ?_
    refine lv_iload_n hx hb dX0_setByDraw_69 rfl (lv_at hl 0 rfl) ?_
    refine lv_bipush (v := 8) hx hb dX0_setByDraw_70 (by decide) ?_
    refine q_irem hx hb dX0_setByDraw_72 (by decide +kernel) ?_
    refine lv_iload_n hx hb dX0_setByDraw_73 rfl (lv_at hl 0 rfl) ?_
    refine lv_bipush (v := 8) hx hb dX0_setByDraw_74 (by decide) ?_
    refine lv_idiv hx hb dX0_setByDraw_76 (by decide +kernel) ?_
    refine lv_bipush (v := 12) hx hb dX0_setByDraw_77 (by decide) ?_
    refine q_irem hx hb dX0_setByDraw_79 (by decide +kernel) ?_
    obtain ⟨q6, hq6, ht⟩ := it_b ht
    have hFc := q_freeW (hD S0) hS hA
    refine q_mv (va_runV (As := [.int 1, .int (q_rem (p0 / 8) 8), .int (q_rem ((p0 / 8) / 8) 12)]) (rest := []) ⟨hx, hb, hml, hown, hts⟩ (kX0_set l D cI cZ cO d0 s.heap.size S0 1 (q_rem (p0 / 8) 8) (q_rem ((p0 / 8) / 8) 12) q6 hq6) (cwV 3 hts gX0_setByDraw_X0_set rfl rfl rfl (by decide +kernel) ⟨Nat.le_of_ble_eq_true rfl, Nat.le_of_ble_eq_true rfl⟩) (q_mV (As := [.int 1, .int (q_rem (p0 / 8) 8), .int (q_rem ((p0 / 8) / 8) 12)]) hE hP (hD S0) (q0 := 0) (ci := 0) rfl rfl) rfl rfl hl.1 rfl (lv_room (Nat.le_of_ble_eq_true rfl)) dX0_setByDraw_80 ⟨Nat.le_of_ble_eq_true rfl, Nat.le_of_ble_eq_true rfl⟩) hS hFc (fun H locs hP1 hk hS => ?_)
    have hP : va_P D vwCl (wg0 cI cZ d0 q6) H := hP1
    refine lv_goto (tgt := 134) hx hb dX0_setByDraw_83 (by decide) ?_
    subst hQ
    obtain rfl := Option.some.inj ht
    exact W.vret hx hb hr (fun t e1 hW => ⟨⟨(), rfl, trivial, q_at e1 hP⟩, hS.F e1⟩) hS.2.2 dX0_setByDraw_134
  have ht := it_n c5 ht
  by_cases c7 : q_rem p0 8 = 3
  · have ht := it_p c7 ht
    refine lv_tableIn (tgt := 86) hx hb dX0_setByDraw_9 (by rw [c7]; decide) (by rw [c7]; decide) (by rw [c7]; rfl) (by decide) ?_
    refine lv_aload_n hx hb dX0_setByDraw_86 rfl (lv_at hl 1 rfl) ?_
    refine lv_iconst (v := 2) hx hb dX0_setByDraw_87 (by decide) ?_
    refine lv_iload_n hx hb dX0_setByDraw_88 rfl (lv_at hl 0 rfl) ?_
    refine lv_iconst (v := 4) hx hb dX0_setByDraw_89 (by decide) ?_
    refine q_irem hx hb dX0_setByDraw_90 (by decide +kernel) ?_
    refine lv_iload_n hx hb dX0_setByDraw_91 rfl (lv_at hl 0 rfl) ?_
    refine lv_iconst (v := 4) hx hb dX0_setByDraw_92 (by decide) ?_
    refine lv_idiv hx hb dX0_setByDraw_93 (by decide +kernel) ?_
    refine lv_iconst (v := 2) hx hb dX0_setByDraw_94 (by decide) ?_
    refine q_irem hx hb dX0_setByDraw_95 (by decide +kernel) ?_
    refine lv_if_ne (tgt := 103) hx hb dX0_setByDraw_96 (by decide) (fun c8 => ?_) (fun c8 => ?_)
    · have ht := it_n c8 ht
      refine lv_iconst (v := (-1)) hx hb dX0_setByDraw_103 (by decide) ?_
      exact J104 2 (q_rem (p0 / 8) 4) (-1) S0 _ _ hP hS ls (lv_sub hl [] rfl) ht
    · have ht := it_p c8 ht
      refine lv_iconst (v := 1) hx hb dX0_setByDraw_99 (by decide) ?_
      refine lv_goto (tgt := 104) hx hb dX0_setByDraw_100 (by decide) ?_
      exact J104 2 (q_rem (p0 / 8) 4) 1 S0 _ _ hP hS ls (lv_sub hl [] rfl) ht
  have ht := it_n c7 ht
  by_cases c9 : q_rem p0 8 = 4
  · have ht := it_p c9 ht
    refine lv_tableIn (tgt := 86) hx hb dX0_setByDraw_9 (by rw [c9]; decide) (by rw [c9]; decide) (by rw [c9]; rfl) (by decide) ?_
    refine lv_aload_n hx hb dX0_setByDraw_86 rfl (lv_at hl 1 rfl) ?_
    refine lv_iconst (v := 2) hx hb dX0_setByDraw_87 (by decide) ?_
    refine lv_iload_n hx hb dX0_setByDraw_88 rfl (lv_at hl 0 rfl) ?_
    refine lv_iconst (v := 4) hx hb dX0_setByDraw_89 (by decide) ?_
    refine q_irem hx hb dX0_setByDraw_90 (by decide +kernel) ?_
    refine lv_iload_n hx hb dX0_setByDraw_91 rfl (lv_at hl 0 rfl) ?_
    refine lv_iconst (v := 4) hx hb dX0_setByDraw_92 (by decide) ?_
    refine lv_idiv hx hb dX0_setByDraw_93 (by decide +kernel) ?_
    refine lv_iconst (v := 2) hx hb dX0_setByDraw_94 (by decide) ?_
    refine q_irem hx hb dX0_setByDraw_95 (by decide +kernel) ?_
    refine lv_if_ne (tgt := 103) hx hb dX0_setByDraw_96 (by decide) (fun c10 => ?_) (fun c10 => ?_)
    · have ht := it_n c10 ht
      refine lv_iconst (v := (-1)) hx hb dX0_setByDraw_103 (by decide) ?_
      exact J104 2 (q_rem (p0 / 8) 4) (-1) S0 _ _ hP hS ls (lv_sub hl [] rfl) ht
    · have ht := it_p c10 ht
      refine lv_iconst (v := 1) hx hb dX0_setByDraw_99 (by decide) ?_
      refine lv_goto (tgt := 104) hx hb dX0_setByDraw_100 (by decide) ?_
      exact J104 2 (q_rem (p0 / 8) 4) 1 S0 _ _ hP hS ls (lv_sub hl [] rfl) ht
  have ht := it_n c9 ht
  by_cases c11 : q_rem p0 8 = 5
  · have ht := it_p c11 ht
    refine lv_tableIn (tgt := 110) hx hb dX0_setByDraw_9 (by rw [c11]; decide) (by rw [c11]; decide) (by rw [c11]; rfl) (by decide) ?_
    refine lv_aload_n hx hb dX0_setByDraw_110 rfl (lv_at hl 1 rfl) ?_
    refine lv_iconst (v := 3) hx hb dX0_setByDraw_111 (by decide) ?_
    refine lv_iload_n hx hb dX0_setByDraw_112 rfl (lv_at hl 0 rfl) ?_
    refine lv_iconst (v := 4) hx hb dX0_setByDraw_113 (by decide) ?_
    refine q_irem hx hb dX0_setByDraw_114 (by decide +kernel) ?_
    refine lv_iload_n hx hb dX0_setByDraw_115 rfl (lv_at hl 0 rfl) ?_
    refine lv_iconst (v := 4) hx hb dX0_setByDraw_116 (by decide) ?_
    refine lv_idiv hx hb dX0_setByDraw_117 (by decide +kernel) ?_
    refine lv_bipush (v := 8) hx hb dX0_setByDraw_118 (by decide) ?_
    refine q_irem hx hb dX0_setByDraw_120 (by decide +kernel) ?_
    obtain ⟨q12, hq12, ht⟩ := it_b ht
    have hFc := q_freeW (hD S0) hS hA
    refine q_mv (va_runV (As := [.int 3, .int (q_rem (p0 / 8) 4), .int (q_rem ((p0 / 8) / 4) 8)]) (rest := []) ⟨hx, hb, hml, hown, hts⟩ (kX0_set l D cI cZ cO d0 s.heap.size S0 3 (q_rem (p0 / 8) 4) (q_rem ((p0 / 8) / 4) 8) q12 hq12) (cwV 3 hts gX0_setByDraw_X0_set rfl rfl rfl (by decide +kernel) ⟨Nat.le_of_ble_eq_true rfl, Nat.le_of_ble_eq_true rfl⟩) (q_mV (As := [.int 3, .int (q_rem (p0 / 8) 4), .int (q_rem ((p0 / 8) / 4) 8)]) hE hP (hD S0) (q0 := 0) (ci := 0) rfl rfl) rfl rfl hl.1 rfl (lv_room (Nat.le_of_ble_eq_true rfl)) dX0_setByDraw_121 ⟨Nat.le_of_ble_eq_true rfl, Nat.le_of_ble_eq_true rfl⟩) hS hFc (fun H locs hP1 hk hS => ?_)
    have hP : va_P D vwCl (wg0 cI cZ d0 q12) H := hP1
    refine lv_goto (tgt := 134) hx hb dX0_setByDraw_124 (by decide) ?_
    subst hQ
    obtain rfl := Option.some.inj ht
    exact W.vret hx hb hr (fun t e1 hW => ⟨⟨(), rfl, trivial, q_at e1 hP⟩, hS.F e1⟩) hS.2.2 dX0_setByDraw_134
  have ht := it_n c11 ht
  refine lv_tableOut (tgt := 127) hx hb dX0_setByDraw_9 (by have n0 := lv_neT c1 (show (0 : Int32).toInt = 0 by decide); have n1 := lv_neT c3 (show (1 : Int32).toInt = 1 by decide); have n2 := lv_neT c5 (show (2 : Int32).toInt = 2 by decide); have n3 := lv_neT c7 (show (3 : Int32).toInt = 3 by decide); have n4 := lv_neT c9 (show (4 : Int32).toInt = 4 by decide); have n5 := lv_neT c11 (show (5 : Int32).toInt = 5 by decide); omega) (by decide) ?_
  refine lv_aload_n hx hb dX0_setByDraw_127 rfl (lv_at hl 1 rfl) ?_
  refine lv_iconst (v := 4) hx hb dX0_setByDraw_128 (by decide) ?_
  refine lv_iconst (v := 0) hx hb dX0_setByDraw_129 (by decide) ?_
  refine lv_iconst (v := 0) hx hb dX0_setByDraw_130 (by decide) ?_
  obtain ⟨q13, hq13, ht⟩ := it_b ht
  have hFc := q_freeW (hD S0) hS hA
  refine q_mv (va_runV (As := [.int 4, .int 0, .int 0]) (rest := []) ⟨hx, hb, hml, hown, hts⟩ (kX0_set l D cI cZ cO d0 s.heap.size S0 4 0 0 q13 hq13) (cwV 3 hts gX0_setByDraw_X0_set rfl rfl rfl (by decide +kernel) ⟨Nat.le_of_ble_eq_true rfl, Nat.le_of_ble_eq_true rfl⟩) (q_mV (As := [.int 4, .int 0, .int 0]) hE hP (hD S0) (q0 := 0) (ci := 0) rfl rfl) rfl rfl hl.1 rfl (lv_room (Nat.le_of_ble_eq_true rfl)) dX0_setByDraw_131 ⟨Nat.le_of_ble_eq_true rfl, Nat.le_of_ble_eq_true rfl⟩) hS hFc (fun H locs hP1 hk hS => ?_)
  have hP : va_P D vwCl (wg0 cI cZ d0 q13) H := hP1
  subst hQ
  obtain rfl := Option.some.inj ht
  exact W.vret hx hb hr (fun t e1 hW => ⟨⟨(), rfl, trivial, q_at e1 hP⟩, hS.F e1⟩) hS.2.2 dX0_setByDraw_134
abbrev rmX2_aimOf : Room := { frames := 0, cells := 0, slots := 0, locals := 0 }
set_option maxHeartbeats 4000000 in
set_option maxRecDepth 100000 in
theorem kX2_aimOf (l : Launch) (D : va_G) (cI cZ cO : ClassId) (p0 : Int32) (p1 : Int32) : Met l yX2_aimOf wsX2_aimOf rmX2_aimOf (q_PR D cI cZ cO [.int p0, .int p1] ([] : va_W)) (vp_Si (fun x => x = xX2_aimOf p0 p1 ∧ True)) 0 0 (fun _ => False) := by
  refine Met.ofW (cc := cX2_aimOf) (maxL := 2) (ret := (some .int)) (by decide) rfl ?_
  intro p e s m args below meth c s₁ B hml hv
  obtain ⟨rfl, hE, hP⟩ := hv
  have hx := B.exec
  have hb := B.bytes
  have hr := B.returns
  have hts := atoms_spec (ws := wsX2_aimOf) B.pre
  have hown : s.vm.findClass RX2 = some m.cls := findClass_of_methodNamed B.named
  have hlocks := B.notSynchronized
  have hl := lv_entry ([.int p0, .int p1]) (n := 2) (Nat.le_of_ble_eq_true rfl)
  rw [lg_entry_eq]
  generalize (lg_sl ([.int p0, .int p1]) ++ List.replicate (2 - (lg_sl ([.int p0, .int p1])).length) Slot.unset).toArray = ls at hl ⊢
  have hl : lv_has ls 2 [(0, .int p0), (1, .int p1)] := hl
  have ht := xX2_aimOf_s p0 p1
  obtain ⟨tg, htg⟩ : ∃ z, z = xX2_aimOf p0 p1 := ⟨_, rfl⟩
  rw [← htg] at ht ⊢
  have ht := ht.symm
  refine lv_iload_n hx hb dX2_aimOf_0 rfl (lv_at hl 1 rfl) ?_
  refine lv_iload_n hx hb dX2_aimOf_1 rfl (lv_at hl 0 rfl) ?_
  refine lv_icmp_ge (tgt := 9) hx hb dX2_aimOf_2 (by decide) (fun c1 => ?_) (fun c1 => ?_)
  · have ht := it_p c1 ht
    refine lv_iload_n hx hb dX2_aimOf_9 rfl (lv_at hl 1 rfl) ?_
    refine lv_iconst (v := 1) hx hb dX2_aimOf_10 (by decide) ?_
    refine lv_iadd hx hb dX2_aimOf_11 ?_
    exact W.iret (v := p1 + 1) hx hb hr (fun t e1 hW => ⟨_, rfl, ⟨ht, trivial⟩, e1⟩) (fun q h => absurd h List.not_mem_nil) dX2_aimOf_12
  · have ht := it_n c1 ht
    refine lv_iload_n hx hb dX2_aimOf_5 rfl (lv_at hl 1 rfl) ?_
    refine lv_goto (tgt := 12) hx hb dX2_aimOf_6 (by decide) ?_
    exact W.iret (v := p1) hx hb hr (fun t e1 hW => ⟨_, rfl, ⟨ht, trivial⟩, e1⟩) (fun q h => absurd h List.not_mem_nil) dX2_aimOf_12
abbrev rmX2_thinkersOf : Room := { frames := 1, cells := 0, slots := 0, locals := 21 }
set_option maxHeartbeats 4000000 in
set_option maxRecDepth 100000 in
theorem kX2_thinkersOf (l : Launch) (D : va_G) (cI cZ cO : ClassId) (p0 : Int32) (p1 : Int32) (tg : Int32) (ht : xX2_thinkersOf p0 p1 = some tg) : Met l yX2_thinkersOf wsX2_thinkersOf rmX2_thinkersOf (q_PR D cI cZ cO [.int p0, .int p1] ([] : va_W)) (vp_Si (fun x => x = tg ∧ True)) 0 0 (fun _ => False) := by
  refine Met.ofW (cc := cX2_thinkersOf) (maxL := 5) (ret := (some .int)) (by decide) rfl ?_
  intro p e s m args below meth c s₁ B hml hv
  obtain ⟨rfl, hE, hP⟩ := hv
  have hx := B.exec
  have hb := B.bytes
  have hr := B.returns
  have hts := atoms_spec (ws := wsX2_thinkersOf) B.pre
  have hown : s.vm.findClass RX2 = some m.cls := findClass_of_methodNamed B.named
  have hlocks := B.notSynchronized
  have hl := lv_entry ([.int p0, .int p1]) (n := 5) (Nat.le_of_ble_eq_true rfl)
  rw [lg_entry_eq]
  generalize (lg_sl ([.int p0, .int p1]) ++ List.replicate (5 - (lg_sl ([.int p0, .int p1])).length) Slot.unset).toArray = ls at hl ⊢
  have hl : lv_has ls 5 [(0, .int p0), (1, .int p1)] := hl
  have ht := (xX2_thinkersOf_s p0 p1).symm.trans ht
  obtain ⟨Q, hQ⟩ : ∃ Q, Q = MQ below (vp_Si (fun x => x = tg ∧ True)) ([.int p0, .int p1] : List Value).toArray s 0 0 (fun _ => False) := ⟨_, rfl⟩
  rw [← hQ]
  have L7 : ∀ (n : Nat) (x2 : Int32) (x3 : Int32) (x4 : Int32) (ls : Array Slot) (_ : lv_has ls 5 [(1, .int p1), (2, .int x2), (3, .int x3), (4, .int x4)]) (_ : xX2_thinkersOf_h7 p0 p1 n x2 x3 x4 = some tg), W p l e (headSpec wsX2_thinkersOf rmX2_thinkersOf).room s m ([.int p0, .int p1] : List Value).toArray below meth c s.heap [] 0 0 Q (F0 m 7 ls []) := by
    intro n
    induction n with
    | zero =>
      intro x2 x3 x4 ls hl ht
      exact it_z ht
    | succ n7 ih7 =>
      intro x2 x3 x4 ls hl ht
      have ht := (xX2_thinkersOf_h7_s p0 p1 n7 x2 x3 x4).symm.trans ht
      refine lv_iload hx hb dX2_thinkersOf_7 (lv_at hl 3 rfl) ?_
      refine lv_if_lt (tgt := 41) hx hb dX2_thinkersOf_9 (by decide) (fun c1 => ?_) (fun c1 => ?_)
      · have ht := it_p c1 ht
        refine lv_iload_n hx hb dX2_thinkersOf_41 rfl (lv_at hl 1 rfl) ?_
        subst hQ
        have ht := Option.some.inj ht
        exact W.iret (v := x2) hx hb hr (fun t e1 hW => ⟨_, rfl, ⟨ht, trivial⟩, e1⟩) (fun q h => absurd h List.not_mem_nil) dX2_thinkersOf_42
      · have ht := it_n c1 ht
        refine lv_iload hx hb dX2_thinkersOf_12 (lv_at hl 3 rfl) ?_
        refine lv_iload_n hx hb dX2_thinkersOf_14 rfl (lv_at hl 2 rfl) ?_
        refine lv_iconst (v := 3) hx hb dX2_thinkersOf_15 (by decide) ?_
        refine q_irem hx hb dX2_thinkersOf_16 (by decide +kernel) ?_
        refine q_ri (va_runS (As := [.int x4, .int (q_rem x3 3)]) (rest := []) ⟨hx, hb, hml, hown, hts⟩ (kX2_aimOf l D cI cZ cO x4 (q_rem x3 3)) (va_cwS 2 hts gX2_thinkersOf_X2_aimOf rfl rfl rfl (by decide +kernel) ⟨Nat.le_of_ble_eq_true rfl, Nat.le_of_ble_eq_true rfl⟩) (q_rS hE q_nil) rfl rfl hl.1 rfl (lv_room (Nat.le_of_ble_eq_true rfl)) dX2_thinkersOf_17 ⟨Nat.le_of_ble_eq_true rfl, Nat.le_of_ble_eq_true rfl⟩) (fun b2 => ?_)
        refine lv_iload_n hx hb dX2_thinkersOf_20 rfl (lv_at hl 0 rfl) ?_
        refine lv_icmp_ne (tgt := 31) hx hb dX2_thinkersOf_21 (by decide) (fun c3 => ?_) (fun c3 => ?_)
        · have ht := it_n c3 ht
          refine lv_iload_n hx hb dX2_thinkersOf_31 rfl (lv_at hl 2 rfl) ?_
          refine lv_iconst (v := 3) hx hb dX2_thinkersOf_32 (by decide) ?_
          refine lv_idiv hx hb dX2_thinkersOf_33 (by decide +kernel) ?_
          refine lv_istore_n (lv' := [(3, .int (x3 / 3)), (1, .int p1), (2, .int x2), (4, .int x4)]) hx hb dX2_thinkersOf_34 rfl hl (by decide) rfl (fun ls hl => ?_)
          refine lv_iinc (v := x4 + (-1)) (lv' := [(4, .int (x4 + (-1))), (3, .int (x3 / 3)), (1, .int p1), (2, .int x2)]) hx hb dX2_thinkersOf_35 hl (k := 3) rfl rfl (by decide) rfl (fun ls hl => ?_)
          refine lv_goto (tgt := 7) hx hb dX2_thinkersOf_38 (by decide) ?_
          exact ih7 x2 (x3 / 3) (x4 + (-1)) ls (lv_sub hl [2, 3, 1, 0] rfl) ht
        · have ht := it_p c3 ht
          refine lv_iload_n hx hb dX2_thinkersOf_24 rfl (lv_at hl 1 rfl) ?_
          refine lv_iconst (v := 1) hx hb dX2_thinkersOf_25 (by decide) ?_
          refine lv_iload hx hb dX2_thinkersOf_26 (lv_at hl 3 rfl) ?_
          refine q_ishl hx hb dX2_thinkersOf_28 ?_
          refine lv_ior hx hb dX2_thinkersOf_29 ?_
          refine lv_istore_n (lv' := [(2, .int (x2 ||| (q_shl 1 x4))), (1, .int p1), (3, .int x3), (4, .int x4)]) hx hb dX2_thinkersOf_30 rfl hl (by decide) rfl (fun ls hl => ?_)
          refine lv_iload_n hx hb dX2_thinkersOf_31 rfl (lv_at hl 2 rfl) ?_
          refine lv_iconst (v := 3) hx hb dX2_thinkersOf_32 (by decide) ?_
          refine lv_idiv hx hb dX2_thinkersOf_33 (by decide +kernel) ?_
          refine lv_istore_n (lv' := [(3, .int (x3 / 3)), (2, .int (x2 ||| (q_shl 1 x4))), (1, .int p1), (4, .int x4)]) hx hb dX2_thinkersOf_34 rfl hl (by decide) rfl (fun ls hl => ?_)
          refine lv_iinc (v := x4 + (-1)) (lv' := [(4, .int (x4 + (-1))), (3, .int (x3 / 3)), (2, .int (x2 ||| (q_shl 1 x4))), (1, .int p1)]) hx hb dX2_thinkersOf_35 hl (k := 3) rfl rfl (by decide) rfl (fun ls hl => ?_)
          refine lv_goto (tgt := 7) hx hb dX2_thinkersOf_38 (by decide) ?_
          exact ih7 (x2 ||| (q_shl 1 x4)) (x3 / 3) (x4 + (-1)) ls (lv_sub hl [3, 2, 1, 0] rfl) ht
  refine lv_iconst (v := 0) hx hb dX2_thinkersOf_0 (by decide) ?_
  refine lv_istore_n (lv' := [(2, .int 0), (0, .int p0), (1, .int p1)]) hx hb dX2_thinkersOf_1 rfl hl (by decide) rfl (fun ls hl => ?_)
  refine lv_iload_n hx hb dX2_thinkersOf_2 rfl (lv_at hl 1 rfl) ?_
  refine lv_istore_n (lv' := [(3, .int p0), (2, .int 0), (0, .int p0), (1, .int p1)]) hx hb dX2_thinkersOf_3 rfl hl (by decide) rfl (fun ls hl => ?_)
  refine lv_iconst (v := 3) hx hb dX2_thinkersOf_4 (by decide) ?_
  refine lv_istore (lv' := [(4, .int 3), (3, .int p0), (2, .int 0), (0, .int p0), (1, .int p1)]) hx hb dX2_thinkersOf_5 hl (by decide) rfl (fun ls hl => ?_)
  exact L7 5000 0 p0 3 ls (lv_sub hl [4, 2, 1, 0] rfl) ht
abbrev rmJ6_bitCount_0f7a4 : Room := { frames := 0, cells := 0, slots := 0, locals := 0 }
set_option maxHeartbeats 4000000 in
set_option maxRecDepth 100000 in
theorem kJ6_bitCount_0f7a4 (l : Launch) (D : va_G) (cI cZ cO : ClassId) (p0 : Int32) : Met l yJ6_bitCount_0f7a4 wsJ6_bitCount_0f7a4 rmJ6_bitCount_0f7a4 (q_PR D cI cZ cO [.int p0] ([] : va_W)) (vp_Si (fun x => x = xJ6_bitCount_0f7a4 p0 ∧ True)) 0 0 (fun _ => False) := by
  refine Met.ofW (cc := cJ6_bitCount_0f7a4) (maxL := 1) (ret := (some .int)) (by decide) rfl ?_
  intro p e s m args below meth c s₁ B hml hv
  obtain ⟨rfl, hE, hP⟩ := hv
  have hx := B.exec
  have hb := B.bytes
  have hr := B.returns
  have hts := atoms_spec (ws := wsJ6_bitCount_0f7a4) B.pre
  have hown : s.vm.findClass RJ6 = some m.cls := findClass_of_methodNamed B.named
  have hlocks := B.notSynchronized
  have hw0 := hts (.constant RJ6 265 (1431655765)) (by decide +kernel)
  have hw1 := hts (.constant RJ6 266 (858993459)) (by decide +kernel)
  have hw2 := hts (.constant RJ6 267 (252645135)) (by decide +kernel)
  have hl := lv_entry ([.int p0]) (n := 1) (Nat.le_of_ble_eq_true rfl)
  rw [lg_entry_eq]
  generalize (lg_sl ([.int p0]) ++ List.replicate (1 - (lg_sl ([.int p0])).length) Slot.unset).toArray = ls at hl ⊢
  have hl : lv_has ls 1 [(0, .int p0)] := hl
  have ht := xJ6_bitCount_0f7a4_s p0
  obtain ⟨tg, htg⟩ : ∃ z, z = xJ6_bitCount_0f7a4 p0 := ⟨_, rfl⟩
  rw [← htg] at ht ⊢
  have ht := ht.symm
  refine lv_iload_n hx hb dJ6_bitCount_0f7a4_0 rfl (lv_at hl 0 rfl) ?_
  refine lv_iload_n hx hb dJ6_bitCount_0f7a4_1 rfl (lv_at hl 0 rfl) ?_
  refine lv_iconst (v := 1) hx hb dJ6_bitCount_0f7a4_2 (by decide) ?_
  refine q_iushr hx hb dJ6_bitCount_0f7a4_3 ?_
  refine lv_ldcw hx hb hown hw0 dJ6_bitCount_0f7a4_4 ?_
  refine lv_iand hx hb dJ6_bitCount_0f7a4_7 ?_
  refine lv_isub hx hb dJ6_bitCount_0f7a4_8 ?_
  refine lv_istore_n (lv' := [(0, .int (p0 - ((q_ushr p0 1) &&& 1431655765)))]) hx hb dJ6_bitCount_0f7a4_9 rfl hl (by decide) rfl (fun ls hl => ?_)
  refine lv_iload_n hx hb dJ6_bitCount_0f7a4_10 rfl (lv_at hl 0 rfl) ?_
  refine lv_ldcw hx hb hown hw1 dJ6_bitCount_0f7a4_11 ?_
  refine lv_iand hx hb dJ6_bitCount_0f7a4_14 ?_
  refine lv_iload_n hx hb dJ6_bitCount_0f7a4_15 rfl (lv_at hl 0 rfl) ?_
  refine lv_iconst (v := 2) hx hb dJ6_bitCount_0f7a4_16 (by decide) ?_
  refine q_iushr hx hb dJ6_bitCount_0f7a4_17 ?_
  refine lv_ldcw hx hb hown hw1 dJ6_bitCount_0f7a4_18 ?_
  refine lv_iand hx hb dJ6_bitCount_0f7a4_21 ?_
  refine lv_iadd hx hb dJ6_bitCount_0f7a4_22 ?_
  refine lv_topi (fun y1 ey1 => ?_)
  have ht := it_l ht ey1
  refine lv_istore_n (lv' := [(0, .int y1)]) hx hb dJ6_bitCount_0f7a4_23 rfl hl (by decide) rfl (fun ls hl => ?_)
  refine lv_iload_n hx hb dJ6_bitCount_0f7a4_24 rfl (lv_at hl 0 rfl) ?_
  refine lv_iload_n hx hb dJ6_bitCount_0f7a4_25 rfl (lv_at hl 0 rfl) ?_
  refine lv_iconst (v := 4) hx hb dJ6_bitCount_0f7a4_26 (by decide) ?_
  refine q_iushr hx hb dJ6_bitCount_0f7a4_27 ?_
  refine lv_iadd hx hb dJ6_bitCount_0f7a4_28 ?_
  refine lv_ldcw hx hb hown hw2 dJ6_bitCount_0f7a4_29 ?_
  refine lv_iand hx hb dJ6_bitCount_0f7a4_32 ?_
  refine lv_istore_n (lv' := [(0, .int ((y1 + (q_ushr y1 4)) &&& 252645135))]) hx hb dJ6_bitCount_0f7a4_33 rfl hl (by decide) rfl (fun ls hl => ?_)
  refine lv_iload_n hx hb dJ6_bitCount_0f7a4_34 rfl (lv_at hl 0 rfl) ?_
  refine lv_iload_n hx hb dJ6_bitCount_0f7a4_35 rfl (lv_at hl 0 rfl) ?_
  refine lv_bipush (v := 8) hx hb dJ6_bitCount_0f7a4_36 (by decide) ?_
  refine q_iushr hx hb dJ6_bitCount_0f7a4_38 ?_
  refine lv_iadd hx hb dJ6_bitCount_0f7a4_39 ?_
  refine lv_topi (fun y2 ey2 => ?_)
  have ht := it_l ht ey2
  refine lv_istore_n (lv' := [(0, .int y2)]) hx hb dJ6_bitCount_0f7a4_40 rfl hl (by decide) rfl (fun ls hl => ?_)
  refine lv_iload_n hx hb dJ6_bitCount_0f7a4_41 rfl (lv_at hl 0 rfl) ?_
  refine lv_iload_n hx hb dJ6_bitCount_0f7a4_42 rfl (lv_at hl 0 rfl) ?_
  refine lv_bipush (v := 16) hx hb dJ6_bitCount_0f7a4_43 (by decide) ?_
  refine q_iushr hx hb dJ6_bitCount_0f7a4_45 ?_
  refine lv_iadd hx hb dJ6_bitCount_0f7a4_46 ?_
  refine lv_istore_n (lv' := [(0, .int (y2 + (q_ushr y2 16)))]) hx hb dJ6_bitCount_0f7a4_47 rfl hl (by decide) rfl (fun ls hl => ?_)
  refine lv_iload_n hx hb dJ6_bitCount_0f7a4_48 rfl (lv_at hl 0 rfl) ?_
  refine lv_bipush (v := 63) hx hb dJ6_bitCount_0f7a4_49 (by decide) ?_
  refine lv_iand hx hb dJ6_bitCount_0f7a4_51 ?_
  exact W.iret (v := (y2 + (q_ushr y2 16)) &&& 63) hx hb hr (fun t e1 hW => ⟨_, rfl, ⟨ht, trivial⟩, e1⟩) (fun q h => absurd h List.not_mem_nil) dJ6_bitCount_0f7a4_52
abbrev rmX7_allow : Room := { frames := 2, cells := 0, slots := 0, locals := 45 }
set_option maxHeartbeats 4000000 in
set_option maxRecDepth 100000 in
theorem kX7_allow (l : Launch) (D : va_G) (cI cZ cO : ClassId) (d0 : Nat → Nat) (S0 : St) (p0 : Int32) (tg : Int32) (ht : xX7_allow S0 p0 = some tg) : Met l yX7_allow wsX7_allow rmX7_allow (q_PR D cI cZ cO [.ref (d0 0), .int p0] (wg7 cI cZ d0 S0)) (vp_Si (fun x => x = tg ∧ narrow .boolean (.int x) = .int x)) 0 0 (fun _ => False) := by
  refine Met.ofW (cc := cX7_allow) (maxL := 3) (ret := (some .boolean)) (by decide) rfl ?_
  intro p e s m args below meth c s₁ B hml hv
  obtain ⟨rfl, hE, hP⟩ := hv
  have hx := B.exec
  have hb := B.bytes
  have hr := B.returns
  have hts := atoms_spec (ws := wsX7_allow) B.pre
  have hown : s.vm.findClass RX7 = some m.cls := findClass_of_methodNamed B.named
  have hlocks := B.notSynchronized
  have hi7 : ∀ w ∈ u_ws RX7 TX7 4, w ∈ wsX7_allow := by decide +kernel
  have hw0 := hts (.fieldLink RX7 21 "HailNames$Sights" "number" "I") (by decide +kernel)
  have hw1 := hts (.fieldLink RX7 9 "HailNames$Sights" "sets" "[I") (by decide +kernel)
  have hw2 := hts (.fieldLink RX7 15 "HailNames$Sights" "aims" "[I") (by decide +kernel)
  have hw3 := hts (.fieldLink RX7 18 "HailNames$Sights" "counts" "[I") (by decide +kernel)
  have hl := lv_entry ([.ref (d0 0), .int p0]) (n := 3) (Nat.le_of_ble_eq_true rfl)
  rw [lg_entry_eq]
  generalize (lg_sl ([.ref (d0 0), .int p0]) ++ List.replicate (3 - (lg_sl ([.ref (d0 0), .int p0])).length) Slot.unset).toArray = ls at hl ⊢
  have hl : lv_has ls 3 [(0, .ref (d0 0)), (1, .int p0)] := hl
  have ht := (xX7_allow_s S0 p0).symm.trans ht
  obtain ⟨Q, hQ⟩ : ∃ Q, Q = MQ below (vp_Si (fun x => x = tg ∧ narrow .boolean (.int x) = .int x)) ([.ref (d0 0), .int p0] : List Value).toArray s 0 0 (fun _ => False) := ⟨_, rfl⟩
  rw [← hQ]
  have L2 : ∀ (n : Nat) (x2 : Int32) (ls : Array Slot) (_ : lv_has ls 3 [(0, .ref (d0 0)), (1, .int p0), (2, .int x2)]) (_ : xX7_allow_h2 S0 p0 n x2 = some tg), W p l e (headSpec wsX7_allow rmX7_allow).room s m ([.ref (d0 0), .int p0] : List Value).toArray below meth c s.heap [] 0 0 Q (F0 m 2 ls []) := by
    intro n
    induction n with
    | zero =>
      intro x2 ls hl ht
      exact it_z ht
    | succ n2 ih2 =>
      intro x2 ls hl ht
      have ht := (xX7_allow_h2_s S0 p0 n2 x2).symm.trans ht
      refine lv_iload_n hx hb dX7_allow_2 rfl (lv_at hl 2 rfl) ?_
      refine lv_aload_n hx hb dX7_allow_3 rfl (lv_at hl 0 rfl) ?_
      refine va_get (D := D) (ci := 7) (v := .int (S0 3 0)) (C := RX7) (T := TX7) (N := 4) hx hb hts hi7 hown hE.1 hP 0 rfl rfl 3 (by decide) hw0 (fun _ h9 => h9) rfl dX7_allow_4 ?_
      refine lv_icmp_ge (tgt := 53) hx hb dX7_allow_7 (by decide) (fun c1 => ?_) (fun c1 => ?_)
      · have ht := it_p c1 ht
        refine lv_iconst (v := 1) hx hb dX7_allow_53 (by decide) ?_
        subst hQ
        have ht := Option.some.inj ht
        exact W.zret (v := 1) (ty := .boolean) hx hb hr (by decide +kernel) (fun t e1 hW => ⟨_, rfl, ⟨ht, (by decide +kernel)⟩, e1⟩) (fun q h => absurd h List.not_mem_nil) dX7_allow_54
      · have ht := it_n c1 ht
        refine lv_iload_n hx hb dX7_allow_10 rfl (lv_at hl 2 rfl) ?_
        refine lv_bipush (v := 8) hx hb dX7_allow_11 (by decide) ?_
        refine lv_icmp_ge (tgt := 53) hx hb dX7_allow_13 (by decide) (fun c2 => ?_) (fun c2 => ?_)
        · have ht := it_p c2 ht
          refine lv_iconst (v := 1) hx hb dX7_allow_53 (by decide) ?_
          subst hQ
          have ht := Option.some.inj ht
          exact W.zret (v := 1) (ty := .boolean) hx hb hr (by decide +kernel) (fun t e1 hW => ⟨_, rfl, ⟨ht, (by decide +kernel)⟩, e1⟩) (fun q h => absurd h List.not_mem_nil) dX7_allow_54
        · have ht := it_n c2 ht
          refine lv_aload_n hx hb dX7_allow_16 rfl (lv_at hl 0 rfl) ?_
          refine va_get (D := D) (ci := 7) (v := .ref (d0 1)) (C := RX7) (T := TX7) (N := 4) hx hb hts hi7 hown hE.1 hP 0 rfl rfl 0 (by decide) hw1 (fun _ h9 => h9) rfl dX7_allow_17 ?_
          refine lv_iload_n hx hb dX7_allow_20 rfl (lv_at hl 2 rfl) ?_
          obtain ⟨g3, ht⟩ := it_g ht
          refine va_iald hx hb hE.1 hP 1 0 rfl rfl (q_in g3) dX7_allow_21 ?_
          refine lv_iload_n hx hb dX7_allow_22 rfl (lv_at hl 1 rfl) ?_
          refine lv_aload_n hx hb dX7_allow_23 rfl (lv_at hl 0 rfl) ?_
          refine va_get (D := D) (ci := 7) (v := .ref (d0 2)) (C := RX7) (T := TX7) (N := 4) hx hb hts hi7 hown hE.1 hP 0 rfl rfl 1 (by decide) hw2 (fun _ h9 => h9) rfl dX7_allow_24 ?_
          refine lv_iload_n hx hb dX7_allow_27 rfl (lv_at hl 2 rfl) ?_
          refine va_iald hx hb hE.1 hP 2 0 rfl rfl (q_in g3) dX7_allow_28 ?_
          obtain ⟨q4, hq4, ht⟩ := it_b ht
          refine q_ri (va_runS (As := [.int p0, .int (S0 1 x2.toNatClampNeg)]) (rest := [.int (S0 0 x2.toNatClampNeg)]) ⟨hx, hb, hml, hown, hts⟩ (kX2_thinkersOf l D cI cZ cO p0 (S0 1 x2.toNatClampNeg) q4 hq4) (va_cwS 2 hts gX7_allow_X2_thinkersOf rfl rfl rfl (by decide +kernel) ⟨Nat.le_of_ble_eq_true rfl, Nat.le_of_ble_eq_true rfl⟩) (q_rS hE q_nil) rfl rfl hl.1 rfl (lv_room (Nat.le_of_ble_eq_true rfl)) dX7_allow_29 ⟨Nat.le_of_ble_eq_true rfl, Nat.le_of_ble_eq_true rfl⟩) (fun b5 => ?_)
          refine lv_iand hx hb dX7_allow_32 ?_
          refine q_ri (va_runS (As := [.int ((S0 0 x2.toNatClampNeg) &&& q4)]) (rest := []) ⟨hx, hb, hml, hown, hts⟩ (kJ6_bitCount_0f7a4 l D cI cZ cO ((S0 0 x2.toNatClampNeg) &&& q4)) (va_cwS 1 hts gX7_allow_J6_bitCount_0f7a4 rfl rfl rfl (by decide +kernel) ⟨Nat.le_of_ble_eq_true rfl, Nat.le_of_ble_eq_true rfl⟩) (q_rS hE q_nil) rfl rfl hl.1 rfl (lv_room (Nat.le_of_ble_eq_true rfl)) dX7_allow_33 ⟨Nat.le_of_ble_eq_true rfl, Nat.le_of_ble_eq_true rfl⟩) (fun b6 => ?_)
          refine lv_aload_n hx hb dX7_allow_36 rfl (lv_at hl 0 rfl) ?_
          refine va_get (D := D) (ci := 7) (v := .ref (d0 3)) (C := RX7) (T := TX7) (N := 4) hx hb hts hi7 hown hE.1 hP 0 rfl rfl 2 (by decide) hw3 (fun _ h9 => h9) rfl dX7_allow_37 ?_
          refine lv_iload_n hx hb dX7_allow_40 rfl (lv_at hl 2 rfl) ?_
          refine va_iald hx hb hE.1 hP 3 0 rfl rfl (q_in g3) dX7_allow_41 ?_
          refine lv_icmp_eq (tgt := 47) hx hb dX7_allow_42 (by decide) (fun c7 => ?_) (fun c7 => ?_)
          · have ht := it_p c7 ht
            refine lv_iinc (v := x2 + 1) (lv' := [(2, .int (x2 + 1)), (0, .ref (d0 0)), (1, .int p0)]) hx hb dX7_allow_47 hl (k := 2) rfl rfl (by decide) rfl (fun ls hl => ?_)
            refine lv_goto (tgt := 2) hx hb dX7_allow_50 (by decide) ?_
            exact ih2 (x2 + 1) ls (lv_sub hl [1, 2, 0] rfl) ht
          · have ht := it_n c7 ht
            refine lv_iconst (v := 0) hx hb dX7_allow_45 (by decide) ?_
            subst hQ
            have ht := Option.some.inj ht
            exact W.zret (v := 0) (ty := .boolean) hx hb hr (by decide +kernel) (fun t e1 hW => ⟨_, rfl, ⟨ht, (by decide +kernel)⟩, e1⟩) (fun q h => absurd h List.not_mem_nil) dX7_allow_46
  refine lv_iconst (v := 0) hx hb dX7_allow_0 (by decide) ?_
  refine lv_istore_n (lv' := [(2, .int 0), (0, .ref (d0 0)), (1, .int p0)]) hx hb dX7_allow_1 rfl hl (by decide) rfl (fun ls hl => ?_)
  exact L2 5000 0 ls (lv_sub hl [1, 2, 0] rfl) ht
abbrev rmX2_findNets : Room := { frames := 3, cells := 0, slots := 0, locals := 67 }
set_option maxHeartbeats 4000000 in
set_option maxRecDepth 100000 in
theorem kX2_findNets (l : Launch) (D : va_G) (cI cZ cO : ClassId) (d0 : Nat → Nat) (d1 : Nat → Nat) (sz : Nat) (S0 : St) (S1 : St) (tg : St) (ht : xX2_findNets S1 S0 = some tg) : Met l yX2_findNets wsX2_findNets rmX2_findNets (q_PM D cI cZ cO [.ref (d0 0), .ref (d1 0)] sz (wg2 cI cZ d0 S0 ++ (wg7 cI cZ d1 S1))) (va_Qv (fun _ : Unit => True) (fun _ t => va_P D vwCl (wg2 cI cZ d0 tg ++ (wg7 cI cZ d1 S1)) t.heap) (va_A (wg2 cI cZ d0 S0 ++ (wg7 cI cZ d1 S1)) sz)) 0 0 (va_A (wg2 cI cZ d0 S0 ++ (wg7 cI cZ d1 S1)) sz) := by
  refine Met.ofW (cc := cX2_findNets) (maxL := 3) (ret := none) (by decide) rfl ?_
  intro p e s m args below meth c s₁ B hml hv
  obtain ⟨rfl, hsz, hE, hP, hD0⟩ := hv
  have hx := B.exec
  have hb := B.bytes
  have hr := B.returns
  have hts := atoms_spec (ws := wsX2_findNets) B.pre
  have hown : s.vm.findClass RX2 = some m.cls := findClass_of_methodNamed B.named
  have hlocks := B.notSynchronized
  have hi2 : ∀ w ∈ u_ws RX2 TX2 6, w ∈ wsX2_findNets := by decide +kernel
  have hw0 := hts (.fieldLink RX2 21 "HailNames$NetFinder" "found" "I") (by decide +kernel)
  have hw1 := hts (.fieldLink RX2 9 "HailNames$NetFinder" "fitting" "[I") (by decide +kernel)
  subst hsz
  have hD1 := hD0.self (sz := s.heap.size)
  generalize hAe : va_A (wg2 cI cZ d0 S0 ++ (wg7 cI cZ d1 S1)) s.heap.size = A at hD1 ⊢
  have hA : ∀ q : Nat, s.heap.size ≤ q → A q := fun q h => by rw [← hAe]; exact Or.inr h
  have hS : va_S A s.heap s.heap [] := va_S.rf
  have hD : ∀ (S0 : St) (S1 : St), va_D A (wg2 cI cZ d0 S0 ++ (wg7 cI cZ d1 S1)) := fun S0 S1 => q_D hD1 rfl
  have hl := lv_entry ([.ref (d0 0), .ref (d1 0)]) (n := 3) (Nat.le_of_ble_eq_true rfl)
  rw [lg_entry_eq]
  generalize (lg_sl ([.ref (d0 0), .ref (d1 0)]) ++ List.replicate (3 - (lg_sl ([.ref (d0 0), .ref (d1 0)])).length) Slot.unset).toArray = ls at hl ⊢
  have hl : lv_has ls 3 [(0, .ref (d0 0)), (1, .ref (d1 0))] := hl
  have ht := (xX2_findNets_s S1 S0).symm.trans ht
  obtain ⟨Q, hQ⟩ : ∃ Q, Q = MQ below (va_Qv (fun _ : Unit => True) (fun _ t => va_P D vwCl (wg2 cI cZ d0 tg ++ (wg7 cI cZ d1 S1)) t.heap) A) ([.ref (d0 0), .ref (d1 0)] : List Value).toArray s 0 0 A := ⟨_, rfl⟩
  rw [← hQ]
  have L7 : ∀ (n : Nat) (x2 : Int32) (S0 : St) (H : Heap) (locs : List Loc) (_ : va_P D vwCl (wg2 cI cZ d0 S0 ++ (wg7 cI cZ d1 S1)) H) (_ : va_S A s.heap H locs) (ls : Array Slot) (_ : lv_has ls 3 [(0, .ref (d0 0)), (1, .ref (d1 0)), (2, .int x2)]) (_ : xX2_findNets_h7 S1 n x2 S0 = some tg), W p l e (headSpec wsX2_findNets rmX2_findNets).room s m ([.ref (d0 0), .ref (d1 0)] : List Value).toArray below meth c H locs 0 0 Q (F0 m 7 ls []) := by
    intro n
    induction n with
    | zero =>
      intro x2 S0 H locs hP hS ls hl ht
      exact it_z ht
    | succ n7 ih7 =>
      intro x2 S0 H locs hP hS ls hl ht
      have ht := (xX2_findNets_h7_s S1 n7 x2 S0).symm.trans ht
      refine lv_iload_n hx hb dX2_findNets_7 rfl (lv_at hl 2 rfl) ?_
      refine lv_bipush (v := 81) hx hb dX2_findNets_8 (by decide) ?_
      refine lv_icmp_ge (tgt := 47) hx hb dX2_findNets_10 (by decide) (fun c2 => ?_) (fun c2 => ?_)
      · have ht := it_p c2 ht
        subst hQ
        obtain rfl := Option.some.inj ht
        exact W.vret hx hb hr (fun t e1 hW => ⟨⟨(), rfl, trivial, q_at e1 hP⟩, hS.F e1⟩) hS.2.2 dX2_findNets_47
      · have ht := it_n c2 ht
        refine lv_aload_n hx hb dX2_findNets_13 rfl (lv_at hl 1 rfl) ?_
        refine lv_iload_n hx hb dX2_findNets_14 rfl (lv_at hl 2 rfl) ?_
        obtain ⟨q3, hq3, ht⟩ := it_b ht
        have hPc : va_P D vwCl (wg7 cI cZ d1 S1) H := hP.sub [4, 5, 6, 7] rfl
        refine q_ri (va_runV (As := [.int x2]) (rest := []) ⟨hx, hb, hml, hown, hts⟩ (kX7_allow l D cI cZ cO d1 S1 x2 q3 hq3) (cwV 1 hts gX2_findNets_X7_allow rfl rfl rfl (by decide +kernel) ⟨Nat.le_of_ble_eq_true rfl, Nat.le_of_ble_eq_true rfl⟩) (q_rV (As := [.int x2]) hE hPc (q0 := 0) (ci := 7) rfl rfl) rfl rfl hl.1 rfl (lv_room (Nat.le_of_ble_eq_true rfl)) dX2_findNets_15 ⟨Nat.le_of_ble_eq_true rfl, Nat.le_of_ble_eq_true rfl⟩) (fun b4 => ?_)
        refine lv_if_eq (tgt := 41) hx hb dX2_findNets_18 (by decide) (fun c5 => ?_) (fun c5 => ?_)
        · have ht := it_p c5 ht
          refine lv_iinc (v := x2 + 1) (lv' := [(2, .int (x2 + 1)), (0, .ref (d0 0)), (1, .ref (d1 0))]) hx hb dX2_findNets_41 hl (k := 2) rfl rfl (by decide) rfl (fun ls hl => ?_)
          refine lv_goto (tgt := 7) hx hb dX2_findNets_44 (by decide) ?_
          exact ih7 (x2 + 1) S0 _ _ hP hS ls (lv_sub hl [1, 2, 0] rfl) ht
        · have ht := it_n c5 ht
          refine lv_aload_n hx hb dX2_findNets_21 rfl (lv_at hl 0 rfl) ?_
          refine va_get (D := D) (ci := 2) (v := .ref (d0 1)) (C := RX2) (T := TX2) (N := 6) hx hb hts hi2 hown hE.1 hP 0 rfl rfl 0 (by decide) hw1 (fun _ h9 => h9) rfl dX2_findNets_22 ?_
          refine lv_aload_n hx hb dX2_findNets_25 rfl (lv_at hl 0 rfl) ?_
          refine va_get (D := D) (ci := 2) (v := .int (S0 3 0)) (C := RX2) (T := TX2) (N := 6) hx hb hts hi2 hown hE.1 hP 0 rfl rfl 3 (by decide) hw0 (fun _ h9 => h9) rfl dX2_findNets_26 ?_
          refine lv_iload_n hx hb dX2_findNets_29 rfl (lv_at hl 2 rfl) ?_
          obtain ⟨g6, ht⟩ := it_g ht
          refine va_iast hx hb hE.1 hP (hD _ _) hS 1 0 rfl rfl (q_in g6) dX2_findNets_30 (fun H locs hP _ hS => ?_)
          have hP : va_P D vwCl (wg2 cI cZ d0 (q_su S0 0 ((S0 3 0).toNatClampNeg) x2) ++ (wg7 cI cZ d1 S1)) H := hP
          obtain ⟨T7, eT7⟩ : ∃ z : St, z = q_su S0 0 ((S0 3 0).toNatClampNeg) x2 := ⟨_, rfl⟩
          rw [← eT7] at hP
          have ht := it_l ht eT7
          refine lv_aload_n hx hb dX2_findNets_31 rfl (lv_at hl 0 rfl) ?_
          refine lv_dup hx hb dX2_findNets_32 rfl ?_
          refine va_get (D := D) (ci := 2) (v := .int (T7 3 0)) (C := RX2) (T := TX2) (N := 6) hx hb hts hi2 hown hE.1 hP 0 rfl rfl 3 (by decide) hw0 (fun _ h9 => h9) rfl dX2_findNets_33 ?_
          refine lv_iconst (v := 1) hx hb dX2_findNets_36 (by decide) ?_
          refine lv_iadd hx hb dX2_findNets_37 ?_
          refine va_put (D := D) (ci := 2) (v := .int ((T7 3 0) + 1)) (ty := .int) (C := RX2) (T := TX2) (N := 6) hx hb hts hi2 tyX2 tyX2_ok nmX2 hown hE.1 hP (hD _ _) hS 0 rfl rfl 3 (by decide) hw0 (fun _ h9 => h9) rfl (by decide +kernel) rfl rfl (Nat.le_of_ble_eq_true rfl) dX2_findNets_38 (fun H locs hP _ hS => ?_)
          have hP : va_P D vwCl (wg2 cI cZ d0 (q_su T7 3 0 ((T7 3 0) + 1)) ++ (wg7 cI cZ d1 S1)) H := hP
          obtain ⟨T8, eT8⟩ : ∃ z : St, z = q_su T7 3 0 ((T7 3 0) + 1) := ⟨_, rfl⟩
          rw [← eT8] at hP
          have ht := it_l ht eT8
          refine lv_iinc (v := x2 + 1) (lv' := [(2, .int (x2 + 1)), (0, .ref (d0 0)), (1, .ref (d1 0))]) hx hb dX2_findNets_41 hl (k := 2) rfl rfl (by decide) rfl (fun ls hl => ?_)
          refine lv_goto (tgt := 7) hx hb dX2_findNets_44 (by decide) ?_
          exact ih7 (x2 + 1) T8 _ _ hP hS ls (lv_sub hl [1, 2, 0] rfl) ht
  refine lv_aload_n hx hb dX2_findNets_0 rfl (lv_at hl 0 rfl) ?_
  refine lv_iconst (v := 0) hx hb dX2_findNets_1 (by decide) ?_
  refine va_put (D := D) (ci := 2) (v := .int 0) (ty := .int) (C := RX2) (T := TX2) (N := 6) hx hb hts hi2 tyX2 tyX2_ok nmX2 hown hE.1 hP (hD _ _) hS 0 rfl rfl 3 (by decide) hw0 (fun _ h9 => h9) rfl (by decide +kernel) rfl rfl (Nat.le_of_ble_eq_true rfl) dX2_findNets_2 (fun H locs hP _ hS => ?_)
  have hP : va_P D vwCl (wg2 cI cZ d0 (q_su S0 3 0 0) ++ (wg7 cI cZ d1 S1)) H := hP
  obtain ⟨T1, eT1⟩ : ∃ z : St, z = q_su S0 3 0 0 := ⟨_, rfl⟩
  rw [← eT1] at hP
  have ht := it_l ht eT1
  refine lv_iconst (v := 0) hx hb dX2_findNets_5 (by decide) ?_
  refine lv_istore_n (lv' := [(2, .int 0), (0, .ref (d0 0)), (1, .ref (d1 0))]) hx hb dX2_findNets_6 rfl hl (by decide) rfl (fun ls hl => ?_)
  exact L7 5000 0 T1 _ _ hP hS ls (lv_sub hl [1, 2, 0] rfl) ht
abbrev rmX2_figuresOfNet : Room := { frames := 1, cells := 0, slots := 0, locals := 21 }
set_option maxHeartbeats 4000000 in
set_option maxRecDepth 100000 in
theorem kX2_figuresOfNet (l : Launch) (D : va_G) (cI cZ cO : ClassId) (d0 : Nat → Nat) (S0 : St) (p0 : Int32) (tg : Int32) (ht : xX2_figuresOfNet S0 p0 = some tg) : Met l yX2_figuresOfNet wsX2_figuresOfNet rmX2_figuresOfNet (q_PR D cI cZ cO [.ref (d0 0), .int p0] (wg2 cI cZ d0 S0)) (vp_Si (fun x => x = tg ∧ True)) 0 0 (fun _ => False) := by
  refine Met.ofW (cc := cX2_figuresOfNet) (maxL := 6) (ret := (some .int)) (by decide) rfl ?_
  intro p e s m args below meth c s₁ B hml hv
  obtain ⟨rfl, hE, hP⟩ := hv
  have hx := B.exec
  have hb := B.bytes
  have hr := B.returns
  have hts := atoms_spec (ws := wsX2_figuresOfNet) B.pre
  have hown : s.vm.findClass RX2 = some m.cls := findClass_of_methodNamed B.named
  have hlocks := B.notSynchronized
  have hi2 : ∀ w ∈ u_ws RX2 TX2 6, w ∈ wsX2_figuresOfNet := by decide +kernel
  have hw0 := hts (.fieldLink RX2 21 "HailNames$NetFinder" "found" "I") (by decide +kernel)
  have hw1 := hts (.fieldLink RX2 9 "HailNames$NetFinder" "fitting" "[I") (by decide +kernel)
  have hl := lv_entry ([.ref (d0 0), .int p0]) (n := 6) (Nat.le_of_ble_eq_true rfl)
  rw [lg_entry_eq]
  generalize (lg_sl ([.ref (d0 0), .int p0]) ++ List.replicate (6 - (lg_sl ([.ref (d0 0), .int p0])).length) Slot.unset).toArray = ls at hl ⊢
  have hl : lv_has ls 6 [(0, .ref (d0 0)), (1, .int p0)] := hl
  have ht := (xX2_figuresOfNet_s S0 p0).symm.trans ht
  obtain ⟨Q, hQ⟩ : ∃ Q, Q = MQ below (vp_Si (fun x => x = tg ∧ True)) ([.ref (d0 0), .int p0] : List Value).toArray s 0 0 (fun _ => False) := ⟨_, rfl⟩
  rw [← hQ]
  have L36 : ∀ (n : Nat) (x2 : Int32) (x3 : Int32) (x4 : Int32) (x5 : Int32) (ls : Array Slot) (_ : lv_has ls 6 [(2, .int x2), (3, .int x3), (4, .int x4), (5, .int x5)]) (_ : xX2_figuresOfNet_h36 S0 p0 n x2 x3 x4 x5 = some tg), W p l e (headSpec wsX2_figuresOfNet rmX2_figuresOfNet).room s m ([.ref (d0 0), .int p0] : List Value).toArray below meth c s.heap [] 0 0 Q (F0 m 36 ls []) := by
    intro n
    induction n with
    | zero =>
      intro x2 x3 x4 x5 ls hl ht
      exact it_z ht
    | succ n36 ih36 =>
      intro x2 x3 x4 x5 ls hl ht
      have ht := (xX2_figuresOfNet_h36_s S0 p0 n36 x2 x3 x4 x5).symm.trans ht
      refine lv_iload hx hb dX2_figuresOfNet_36 (lv_at hl 3 rfl) ?_
      refine lv_if_lt (tgt := 72) hx hb dX2_figuresOfNet_38 (by decide) (fun c5 => ?_) (fun c5 => ?_)
      · have ht := it_p c5 ht
        refine lv_iload_n hx hb dX2_figuresOfNet_72 rfl (lv_at hl 1 rfl) ?_
        subst hQ
        have ht := Option.some.inj ht
        exact W.iret (v := x3) hx hb hr (fun t e1 hW => ⟨_, rfl, ⟨ht, trivial⟩, e1⟩) (fun q h => absurd h List.not_mem_nil) dX2_figuresOfNet_73
      · have ht := it_n c5 ht
        refine lv_iload_n hx hb dX2_figuresOfNet_41 rfl (lv_at hl 1 rfl) ?_
        refine lv_iload hx hb dX2_figuresOfNet_42 (lv_at hl 2 rfl) ?_
        refine lv_iload hx hb dX2_figuresOfNet_44 (lv_at hl 3 rfl) ?_
        refine lv_iload_n hx hb dX2_figuresOfNet_46 rfl (lv_at hl 0 rfl) ?_
        refine lv_iconst (v := 3) hx hb dX2_figuresOfNet_47 (by decide) ?_
        refine q_irem hx hb dX2_figuresOfNet_48 (by decide +kernel) ?_
        refine q_ri (va_runS (As := [.int x5, .int (q_rem x2 3)]) (rest := [.int x4, .int x3]) ⟨hx, hb, hml, hown, hts⟩ (kX2_aimOf l D cI cZ cO x5 (q_rem x2 3)) (va_cwS 2 hts gX2_figuresOfNet_X2_aimOf rfl rfl rfl (by decide +kernel) ⟨Nat.le_of_ble_eq_true rfl, Nat.le_of_ble_eq_true rfl⟩) (q_rS hE q_nil) rfl rfl hl.1 rfl (lv_room (Nat.le_of_ble_eq_true rfl)) dX2_figuresOfNet_49 ⟨Nat.le_of_ble_eq_true rfl, Nat.le_of_ble_eq_true rfl⟩) (fun b6 => ?_)
        refine lv_imul hx hb dX2_figuresOfNet_52 ?_
        refine lv_iadd hx hb dX2_figuresOfNet_53 ?_
        refine lv_istore_n (lv' := [(3, .int (x3 + (x4 * (xX2_aimOf x5 (q_rem x2 3))))), (2, .int x2), (4, .int x4), (5, .int x5)]) hx hb dX2_figuresOfNet_54 rfl hl (by decide) rfl (fun ls hl => ?_)
        refine lv_iload hx hb dX2_figuresOfNet_55 (lv_at hl 2 rfl) ?_
        refine lv_bipush (v := 10) hx hb dX2_figuresOfNet_57 (by decide) ?_
        refine lv_imul hx hb dX2_figuresOfNet_59 ?_
        refine lv_istore (lv' := [(4, .int (x4 * 10)), (3, .int (x3 + (x4 * (xX2_aimOf x5 (q_rem x2 3))))), (2, .int x2), (5, .int x5)]) hx hb dX2_figuresOfNet_60 hl (by decide) rfl (fun ls hl => ?_)
        refine lv_iload_n hx hb dX2_figuresOfNet_62 rfl (lv_at hl 2 rfl) ?_
        refine lv_iconst (v := 3) hx hb dX2_figuresOfNet_63 (by decide) ?_
        refine lv_idiv hx hb dX2_figuresOfNet_64 (by decide +kernel) ?_
        refine lv_istore_n (lv' := [(2, .int (x2 / 3)), (4, .int (x4 * 10)), (3, .int (x3 + (x4 * (xX2_aimOf x5 (q_rem x2 3))))), (5, .int x5)]) hx hb dX2_figuresOfNet_65 rfl hl (by decide) rfl (fun ls hl => ?_)
        refine lv_iinc (v := x5 + (-1)) (lv' := [(5, .int (x5 + (-1))), (2, .int (x2 / 3)), (4, .int (x4 * 10)), (3, .int (x3 + (x4 * (xX2_aimOf x5 (q_rem x2 3)))))]) hx hb dX2_figuresOfNet_66 hl (k := 3) rfl rfl (by decide) rfl (fun ls hl => ?_)
        refine lv_goto (tgt := 36) hx hb dX2_figuresOfNet_69 (by decide) ?_
        exact ih36 (x2 / 3) (x3 + (x4 * (xX2_aimOf x5 (q_rem x2 3)))) (x4 * 10) (x5 + (-1)) ls (lv_sub hl [1, 3, 2, 0] rfl) ht
  refine lv_iload_n hx hb dX2_figuresOfNet_0 rfl (lv_at hl 1 rfl) ?_
  refine lv_if_lt (tgt := 18) hx hb dX2_figuresOfNet_1 (by decide) (fun c1 => ?_) (fun c1 => ?_)
  · have ht := it_p c1 ht
    refine lv_bipush (v := (-6)) hx hb dX2_figuresOfNet_18 (by decide) ?_
    subst hQ
    have ht := Option.some.inj ht
    exact W.iret (v := (-6)) hx hb hr (fun t e1 hW => ⟨_, rfl, ⟨ht, trivial⟩, e1⟩) (fun q h => absurd h List.not_mem_nil) dX2_figuresOfNet_20
  · have ht := it_n c1 ht
    refine lv_iload_n hx hb dX2_figuresOfNet_4 rfl (lv_at hl 1 rfl) ?_
    refine lv_aload_n hx hb dX2_figuresOfNet_5 rfl (lv_at hl 0 rfl) ?_
    refine va_get (D := D) (ci := 2) (v := .int (S0 3 0)) (C := RX2) (T := TX2) (N := 6) hx hb hts hi2 hown hE.1 hP 0 rfl rfl 3 (by decide) hw0 (fun _ h9 => h9) rfl dX2_figuresOfNet_6 ?_
    refine lv_icmp_ge (tgt := 18) hx hb dX2_figuresOfNet_9 (by decide) (fun c2 => ?_) (fun c2 => ?_)
    · have ht := it_p c2 ht
      refine lv_bipush (v := (-6)) hx hb dX2_figuresOfNet_18 (by decide) ?_
      subst hQ
      have ht := Option.some.inj ht
      exact W.iret (v := (-6)) hx hb hr (fun t e1 hW => ⟨_, rfl, ⟨ht, trivial⟩, e1⟩) (fun q h => absurd h List.not_mem_nil) dX2_figuresOfNet_20
    · have ht := it_n c2 ht
      refine lv_iload_n hx hb dX2_figuresOfNet_12 rfl (lv_at hl 1 rfl) ?_
      refine lv_bipush (v := 81) hx hb dX2_figuresOfNet_13 (by decide) ?_
      refine lv_icmp_lt (tgt := 21) hx hb dX2_figuresOfNet_15 (by decide) (fun c3 => ?_) (fun c3 => ?_)
      · have ht := it_p c3 ht
        refine lv_aload_n hx hb dX2_figuresOfNet_21 rfl (lv_at hl 0 rfl) ?_
        refine va_get (D := D) (ci := 2) (v := .ref (d0 1)) (C := RX2) (T := TX2) (N := 6) hx hb hts hi2 hown hE.1 hP 0 rfl rfl 0 (by decide) hw1 (fun _ h9 => h9) rfl dX2_figuresOfNet_22 ?_
        refine lv_iload_n hx hb dX2_figuresOfNet_25 rfl (lv_at hl 1 rfl) ?_
        obtain ⟨g4, ht⟩ := it_g ht
        refine va_iald hx hb hE.1 hP 1 0 rfl rfl (q_in g4) dX2_figuresOfNet_26 ?_
        refine lv_istore_n (lv' := [(2, .int (S0 0 p0.toNatClampNeg)), (0, .ref (d0 0)), (1, .int p0)]) hx hb dX2_figuresOfNet_27 rfl hl (by decide) rfl (fun ls hl => ?_)
        refine lv_iconst (v := 0) hx hb dX2_figuresOfNet_28 (by decide) ?_
        refine lv_istore_n (lv' := [(3, .int 0), (2, .int (S0 0 p0.toNatClampNeg)), (0, .ref (d0 0)), (1, .int p0)]) hx hb dX2_figuresOfNet_29 rfl hl (by decide) rfl (fun ls hl => ?_)
        refine lv_iconst (v := 1) hx hb dX2_figuresOfNet_30 (by decide) ?_
        refine lv_istore (lv' := [(4, .int 1), (3, .int 0), (2, .int (S0 0 p0.toNatClampNeg)), (0, .ref (d0 0)), (1, .int p0)]) hx hb dX2_figuresOfNet_31 hl (by decide) rfl (fun ls hl => ?_)
        refine lv_iconst (v := 3) hx hb dX2_figuresOfNet_33 (by decide) ?_
        refine lv_istore (lv' := [(5, .int 3), (4, .int 1), (3, .int 0), (2, .int (S0 0 p0.toNatClampNeg)), (0, .ref (d0 0)), (1, .int p0)]) hx hb dX2_figuresOfNet_34 hl (by decide) rfl (fun ls hl => ?_)
        exact L36 5000 (S0 0 p0.toNatClampNeg) 0 1 3 ls (lv_sub hl [3, 2, 1, 0] rfl) ht
      · have ht := it_n c3 ht
        refine lv_bipush (v := (-6)) hx hb dX2_figuresOfNet_18 (by decide) ?_
        subst hQ
        have ht := Option.some.inj ht
        exact W.iret (v := (-6)) hx hb hr (fun t e1 hW => ⟨_, rfl, ⟨ht, trivial⟩, e1⟩) (fun q h => absurd h List.not_mem_nil) dX2_figuresOfNet_20
abbrev rmX2_countByThinkers : Room := { frames := 2, cells := 0, slots := 0, locals := 45 }
set_option maxHeartbeats 4000000 in
set_option maxRecDepth 100000 in
theorem kX2_countByThinkers (l : Launch) (D : va_G) (cI cZ cO : ClassId) (d0 : Nat → Nat) (sz : Nat) (S0 : St) (p0 : Int32) (tg : St) (ht : xX2_countByThinkers p0 S0 = some tg) : Met l yX2_countByThinkers wsX2_countByThinkers rmX2_countByThinkers (q_PM D cI cZ cO [.ref (d0 0), .int p0] sz (wg2 cI cZ d0 S0)) (va_Qv (fun _ : Unit => True) (fun _ t => va_P D vwCl (wg2 cI cZ d0 tg) t.heap) (va_A (wg2 cI cZ d0 S0) sz)) 0 0 (va_A (wg2 cI cZ d0 S0) sz) := by
  refine Met.ofW (cc := cX2_countByThinkers) (maxL := 3) (ret := none) (by decide) rfl ?_
  intro p e s m args below meth c s₁ B hml hv
  obtain ⟨rfl, hsz, hE, hP, hD0⟩ := hv
  have hx := B.exec
  have hb := B.bytes
  have hr := B.returns
  have hts := atoms_spec (ws := wsX2_countByThinkers) B.pre
  have hown : s.vm.findClass RX2 = some m.cls := findClass_of_methodNamed B.named
  have hlocks := B.notSynchronized
  have hi2 : ∀ w ∈ u_ws RX2 TX2 6, w ∈ wsX2_countByThinkers := by decide +kernel
  have hw0 := hts (.fieldLink RX2 15 "HailNames$NetFinder" "netsByThinkers" "[I") (by decide +kernel)
  have hw1 := hts (.fieldLink RX2 21 "HailNames$NetFinder" "found" "I") (by decide +kernel)
  have hw2 := hts (.fieldLink RX2 9 "HailNames$NetFinder" "fitting" "[I") (by decide +kernel)
  subst hsz
  have hD1 := hD0.self (sz := s.heap.size)
  generalize hAe : va_A (wg2 cI cZ d0 S0) s.heap.size = A at hD1 ⊢
  have hA : ∀ q : Nat, s.heap.size ≤ q → A q := fun q h => by rw [← hAe]; exact Or.inr h
  have hS : va_S A s.heap s.heap [] := va_S.rf
  have hD : ∀ (S0 : St), va_D A (wg2 cI cZ d0 S0) := fun S0 => q_D hD1 rfl
  have hl := lv_entry ([.ref (d0 0), .int p0]) (n := 3) (Nat.le_of_ble_eq_true rfl)
  rw [lg_entry_eq]
  generalize (lg_sl ([.ref (d0 0), .int p0]) ++ List.replicate (3 - (lg_sl ([.ref (d0 0), .int p0])).length) Slot.unset).toArray = ls at hl ⊢
  have hl : lv_has ls 3 [(0, .ref (d0 0)), (1, .int p0)] := hl
  have ht := (xX2_countByThinkers_s p0 S0).symm.trans ht
  obtain ⟨Q, hQ⟩ : ∃ Q, Q = MQ below (va_Qv (fun _ : Unit => True) (fun _ t => va_P D vwCl (wg2 cI cZ d0 tg) t.heap) A) ([.ref (d0 0), .int p0] : List Value).toArray s 0 0 A := ⟨_, rfl⟩
  rw [← hQ]
  have L2 : ∀ (n : Nat) (x2 : Int32) (S0 : St) (H : Heap) (locs : List Loc) (_ : va_P D vwCl (wg2 cI cZ d0 S0) H) (_ : va_S A s.heap H locs) (ls : Array Slot) (_ : lv_has ls 3 [(0, .ref (d0 0)), (1, .int p0), (2, .int x2)]) (_ : xX2_countByThinkers_h2 p0 n x2 S0 = some tg), W p l e (headSpec wsX2_countByThinkers rmX2_countByThinkers).room s m ([.ref (d0 0), .int p0] : List Value).toArray below meth c H locs 0 0 Q (F0 m 2 ls []) := by
    intro n
    induction n with
    | zero =>
      intro x2 S0 H locs hP hS ls hl ht
      exact it_z ht
    | succ n2 ih2 =>
      intro x2 S0 H locs hP hS ls hl ht
      have ht := (xX2_countByThinkers_h2_s p0 n2 x2 S0).symm.trans ht
      have L23 : ∀ (n : Nat) (x2 : Int32) (S0 : St) (H : Heap) (locs : List Loc) (_ : va_P D vwCl (wg2 cI cZ d0 S0) H) (_ : va_S A s.heap H locs) (ls : Array Slot) (_ : lv_has ls 3 [(0, .ref (d0 0)), (1, .int p0), (2, .int x2)]) (_ : xX2_countByThinkers_h23 p0 n x2 S0 = some tg), W p l e (headSpec wsX2_countByThinkers rmX2_countByThinkers).room s m ([.ref (d0 0), .int p0] : List Value).toArray below meth c H locs 0 0 Q (F0 m 23 ls []) := by
        intro n
        induction n with
        | zero =>
          intro x2 S0 H locs hP hS ls hl ht
          exact it_z ht
        | succ n23 ih23 =>
          intro x2 S0 H locs hP hS ls hl ht
          have ht := (xX2_countByThinkers_h23_s p0 n23 x2 S0).symm.trans ht
          refine lv_iload_n hx hb dX2_countByThinkers_23 rfl (lv_at hl 2 rfl) ?_
          refine lv_aload_n hx hb dX2_countByThinkers_24 rfl (lv_at hl 0 rfl) ?_
          refine va_get (D := D) (ci := 2) (v := .int (S0 3 0)) (C := RX2) (T := TX2) (N := 6) hx hb hts hi2 hown hE.1 hP 0 rfl rfl 3 (by decide) hw1 (fun _ h9 => h9) rfl dX2_countByThinkers_25 ?_
          refine lv_icmp_ge (tgt := 62) hx hb dX2_countByThinkers_28 (by decide) (fun c4 => ?_) (fun c4 => ?_)
          · have ht := it_p c4 ht
            subst hQ
            obtain rfl := Option.some.inj ht
            exact W.vret hx hb hr (fun t e1 hW => ⟨⟨(), rfl, trivial, q_at e1 hP⟩, hS.F e1⟩) hS.2.2 dX2_countByThinkers_62
          · have ht := it_n c4 ht
            refine lv_iload_n hx hb dX2_countByThinkers_31 rfl (lv_at hl 2 rfl) ?_
            refine lv_bipush (v := 81) hx hb dX2_countByThinkers_32 (by decide) ?_
            refine lv_icmp_ge (tgt := 62) hx hb dX2_countByThinkers_34 (by decide) (fun c5 => ?_) (fun c5 => ?_)
            · have ht := it_p c5 ht
              subst hQ
              obtain rfl := Option.some.inj ht
              exact W.vret hx hb hr (fun t e1 hW => ⟨⟨(), rfl, trivial, q_at e1 hP⟩, hS.F e1⟩) hS.2.2 dX2_countByThinkers_62
            · have ht := it_n c5 ht
              refine lv_aload_n hx hb dX2_countByThinkers_37 rfl (lv_at hl 0 rfl) ?_
              refine va_get (D := D) (ci := 2) (v := .ref (d0 2)) (C := RX2) (T := TX2) (N := 6) hx hb hts hi2 hown hE.1 hP 0 rfl rfl 1 (by decide) hw0 (fun _ h9 => h9) rfl dX2_countByThinkers_38 ?_
              refine lv_aload_n hx hb dX2_countByThinkers_41 rfl (lv_at hl 0 rfl) ?_
              refine va_get (D := D) (ci := 2) (v := .ref (d0 1)) (C := RX2) (T := TX2) (N := 6) hx hb hts hi2 hown hE.1 hP 0 rfl rfl 0 (by decide) hw2 (fun _ h9 => h9) rfl dX2_countByThinkers_42 ?_
              refine lv_iload_n hx hb dX2_countByThinkers_45 rfl (lv_at hl 2 rfl) ?_
              obtain ⟨g6, ht⟩ := it_g ht
              refine va_iald hx hb hE.1 hP 1 0 rfl rfl (q_in g6) dX2_countByThinkers_46 ?_
              refine lv_iload_n hx hb dX2_countByThinkers_47 rfl (lv_at hl 1 rfl) ?_
              obtain ⟨q7, hq7, ht⟩ := it_b ht
              refine q_ri (va_runS (As := [.int (S0 0 x2.toNatClampNeg), .int p0]) (rest := [.ref (d0 2)]) ⟨hx, hb, hml, hown, hts⟩ (kX2_thinkersOf l D cI cZ cO (S0 0 x2.toNatClampNeg) p0 q7 hq7) (va_cwS 2 hts gX2_countByThinkers_X2_thinkersOf rfl rfl rfl (by decide +kernel) ⟨Nat.le_of_ble_eq_true rfl, Nat.le_of_ble_eq_true rfl⟩) (q_rS hE q_nil) rfl rfl hl.1 rfl (lv_room (Nat.le_of_ble_eq_true rfl)) dX2_countByThinkers_48 ⟨Nat.le_of_ble_eq_true rfl, Nat.le_of_ble_eq_true rfl⟩) (fun b8 => ?_)
              refine lv_dup2_11 hx hb dX2_countByThinkers_51 rfl rfl ?_
              obtain ⟨g9, ht⟩ := it_g ht
              refine va_iald hx hb hE.1 hP 2 0 rfl rfl (q_in g9) dX2_countByThinkers_52 ?_
              refine lv_iconst (v := 1) hx hb dX2_countByThinkers_53 (by decide) ?_
              refine lv_iadd hx hb dX2_countByThinkers_54 ?_
              refine va_iast hx hb hE.1 hP (hD _) hS 2 0 rfl rfl (q_in g9) dX2_countByThinkers_55 (fun H locs hP _ hS => ?_)
              have hP : va_P D vwCl (wg2 cI cZ d0 (q_su S0 1 q7.toNatClampNeg ((S0 1 q7.toNatClampNeg) + 1))) H := hP
              obtain ⟨T10, eT10⟩ : ∃ z : St, z = q_su S0 1 q7.toNatClampNeg ((S0 1 q7.toNatClampNeg) + 1) := ⟨_, rfl⟩
              rw [← eT10] at hP
              have ht := it_l ht eT10
              refine lv_iinc (v := x2 + 1) (lv' := [(2, .int (x2 + 1)), (0, .ref (d0 0)), (1, .int p0)]) hx hb dX2_countByThinkers_56 hl (k := 2) rfl rfl (by decide) rfl (fun ls hl => ?_)
              refine lv_goto (tgt := 23) hx hb dX2_countByThinkers_59 (by decide) ?_
              exact ih23 (x2 + 1) T10 _ _ hP hS ls (lv_sub hl [1, 2, 0] rfl) ht
      refine lv_iload_n hx hb dX2_countByThinkers_2 rfl (lv_at hl 2 rfl) ?_
      refine lv_bipush (v := 15) hx hb dX2_countByThinkers_3 (by decide) ?_
      refine lv_icmp_gt (tgt := 21) hx hb dX2_countByThinkers_5 (by decide) (fun c1 => ?_) (fun c1 => ?_)
      · have ht := it_p c1 ht
        refine lv_iconst (v := 0) hx hb dX2_countByThinkers_21 (by decide) ?_
        refine lv_istore_n (lv' := [(2, .int 0), (0, .ref (d0 0)), (1, .int p0)]) hx hb dX2_countByThinkers_22 rfl hl (by decide) rfl (fun ls hl => ?_)
        exact L23 5000 0 S0 _ _ hP hS ls (lv_sub hl [1, 2, 0] rfl) ht
      · have ht := it_n c1 ht
        refine lv_aload_n hx hb dX2_countByThinkers_8 rfl (lv_at hl 0 rfl) ?_
        refine va_get (D := D) (ci := 2) (v := .ref (d0 2)) (C := RX2) (T := TX2) (N := 6) hx hb hts hi2 hown hE.1 hP 0 rfl rfl 1 (by decide) hw0 (fun _ h9 => h9) rfl dX2_countByThinkers_9 ?_
        refine lv_iload_n hx hb dX2_countByThinkers_12 rfl (lv_at hl 2 rfl) ?_
        refine lv_iconst (v := 0) hx hb dX2_countByThinkers_13 (by decide) ?_
        obtain ⟨g2, ht⟩ := it_g ht
        refine va_iast hx hb hE.1 hP (hD _) hS 2 0 rfl rfl (q_in g2) dX2_countByThinkers_14 (fun H locs hP _ hS => ?_)
        have hP : va_P D vwCl (wg2 cI cZ d0 (q_su S0 1 x2.toNatClampNeg 0)) H := hP
        obtain ⟨T3, eT3⟩ : ∃ z : St, z = q_su S0 1 x2.toNatClampNeg 0 := ⟨_, rfl⟩
        rw [← eT3] at hP
        have ht := it_l ht eT3
        refine lv_iinc (v := x2 + 1) (lv' := [(2, .int (x2 + 1)), (0, .ref (d0 0)), (1, .int p0)]) hx hb dX2_countByThinkers_15 hl (k := 2) rfl rfl (by decide) rfl (fun ls hl => ?_)
        refine lv_goto (tgt := 2) hx hb dX2_countByThinkers_18 (by decide) ?_
        exact ih2 (x2 + 1) T3 _ _ hP hS ls (lv_sub hl [1, 2, 0] rfl) ht
  refine lv_iconst (v := 0) hx hb dX2_countByThinkers_0 (by decide) ?_
  refine lv_istore_n (lv' := [(2, .int 0), (0, .ref (d0 0)), (1, .int p0)]) hx hb dX2_countByThinkers_1 rfl hl (by decide) rfl (fun ls hl => ?_)
  exact L2 5000 0 S0 _ _ hP hS ls (lv_sub hl [1, 2, 0] rfl) ht
abbrev rmX2_leftAtMost : Room := { frames := 1, cells := 0, slots := 0, locals := 20 }
set_option maxHeartbeats 4000000 in
set_option maxRecDepth 100000 in
theorem kX2_leftAtMost (l : Launch) (D : va_G) (cI cZ cO : ClassId) (d0 : Nat → Nat) (sz : Nat) (S0 : St) (p0 : Int32) (tg : Int32 × St) (ht : xX2_leftAtMost p0 S0 = some tg) : Met l yX2_leftAtMost wsX2_leftAtMost rmX2_leftAtMost (q_PM D cI cZ cO [.ref (d0 0), .int p0] sz (wg2 cI cZ d0 S0)) (va_Qi (fun x (_ : Unit) => x = tg.1 ∧ True) (fun _ t => va_P D vwCl (wg2 cI cZ d0 tg.2) t.heap) (va_A (wg2 cI cZ d0 S0) sz)) 0 0 (va_A (wg2 cI cZ d0 S0) sz) := by
  refine Met.ofW (cc := cX2_leftAtMost) (maxL := 5) (ret := (some .int)) (by decide) rfl ?_
  intro p e s m args below meth c s₁ B hml hv
  obtain ⟨rfl, hsz, hE, hP, hD0⟩ := hv
  have hx := B.exec
  have hb := B.bytes
  have hr := B.returns
  have hts := atoms_spec (ws := wsX2_leftAtMost) B.pre
  have hown : s.vm.findClass RX2 = some m.cls := findClass_of_methodNamed B.named
  have hlocks := B.notSynchronized
  have hi2 : ∀ w ∈ u_ws RX2 TX2 6, w ∈ wsX2_leftAtMost := by decide +kernel
  have hw0 := hts (.fieldLink RX2 18 "HailNames$NetFinder" "netsByAnswer" "[I") (by decide +kernel)
  have hw1 := hts (.fieldLink RX2 15 "HailNames$NetFinder" "netsByThinkers" "[I") (by decide +kernel)
  have hw2 := hts (.methodLink RX2 57 Lib.Math.max.name) (by decide +kernel)
  have hw3 := hts (.static Lib.Math.max.name) (by decide +kernel)
  have hw4 := hts (.initialized "java/lang/Math") (by decide +kernel)
  have hw5 := hts (.code Lib.Math.max.name Lib.Math.max.code 2 (some .int)) (by decide +kernel)
  subst hsz
  have hD1 := hD0.self (sz := s.heap.size)
  generalize hAe : va_A (wg2 cI cZ d0 S0) s.heap.size = A at hD1 ⊢
  have hA : ∀ q : Nat, s.heap.size ≤ q → A q := fun q h => by rw [← hAe]; exact Or.inr h
  have hS : va_S A s.heap s.heap [] := va_S.rf
  have hD : ∀ (S0 : St), va_D A (wg2 cI cZ d0 S0) := fun S0 => q_D hD1 rfl
  have hl := lv_entry ([.ref (d0 0), .int p0]) (n := 5) (Nat.le_of_ble_eq_true rfl)
  rw [lg_entry_eq]
  generalize (lg_sl ([.ref (d0 0), .int p0]) ++ List.replicate (5 - (lg_sl ([.ref (d0 0), .int p0])).length) Slot.unset).toArray = ls at hl ⊢
  have hl : lv_has ls 5 [(0, .ref (d0 0)), (1, .int p0)] := hl
  have ht := (xX2_leftAtMost_s p0 S0).symm.trans ht
  obtain ⟨Q, hQ⟩ : ∃ Q, Q = MQ below (va_Qi (fun x (_ : Unit) => x = tg.1 ∧ True) (fun _ t => va_P D vwCl (wg2 cI cZ d0 tg.2) t.heap) A) ([.ref (d0 0), .int p0] : List Value).toArray s 0 0 A := ⟨_, rfl⟩
  rw [← hQ]
  have L2 : ∀ (n : Nat) (x2 : Int32) (S0 : St) (H : Heap) (locs : List Loc) (_ : va_P D vwCl (wg2 cI cZ d0 S0) H) (_ : va_S A s.heap H locs) (ls : Array Slot) (_ : lv_has ls 5 [(0, .ref (d0 0)), (1, .int p0), (2, .int x2)]) (_ : xX2_leftAtMost_h2 p0 n x2 S0 = some tg), W p l e (headSpec wsX2_leftAtMost rmX2_leftAtMost).room s m ([.ref (d0 0), .int p0] : List Value).toArray below meth c H locs 0 0 Q (F0 m 2 ls []) := by
    intro n
    induction n with
    | zero =>
      intro x2 S0 H locs hP hS ls hl ht
      exact it_z ht
    | succ n2 ih2 =>
      intro x2 S0 H locs hP hS ls hl ht
      have ht := (xX2_leftAtMost_h2_s p0 n2 x2 S0).symm.trans ht
      have L24 : ∀ (n : Nat) (x2 : Int32) (x3 : Int32) (S0 : St) (H : Heap) (locs : List Loc) (_ : va_P D vwCl (wg2 cI cZ d0 S0) H) (_ : va_S A s.heap H locs) (ls : Array Slot) (_ : lv_has ls 5 [(0, .ref (d0 0)), (1, .int p0), (2, .int x2), (3, .int x3)]) (_ : xX2_leftAtMost_h24 p0 n x2 x3 S0 = some tg), W p l e (headSpec wsX2_leftAtMost rmX2_leftAtMost).room s m ([.ref (d0 0), .int p0] : List Value).toArray below meth c H locs 0 0 Q (F0 m 24 ls []) := by
        intro n
        induction n with
        | zero =>
          intro x2 x3 S0 H locs hP hS ls hl ht
          exact it_z ht
        | succ n24 ih24 =>
          intro x2 x3 S0 H locs hP hS ls hl ht
          have ht := (xX2_leftAtMost_h24_s p0 n24 x2 x3 S0).symm.trans ht
          refine lv_iload_n hx hb dX2_leftAtMost_24 rfl (lv_at hl 3 rfl) ?_
          refine lv_bipush (v := 15) hx hb dX2_leftAtMost_25 (by decide) ?_
          refine lv_icmp_gt (tgt := 72) hx hb dX2_leftAtMost_27 (by decide) (fun c4 => ?_) (fun c4 => ?_)
          · have ht := it_p c4 ht
            refine lv_iload_n hx hb dX2_leftAtMost_72 rfl (lv_at hl 2 rfl) ?_
            subst hQ
            obtain rfl := Option.some.inj ht
            exact W.iret (v := x2) hx hb hr (fun t e1 hW => ⟨⟨_, (), rfl, ⟨rfl, trivial⟩, q_at e1 hP⟩, hS.F e1⟩) hS.2.2 dX2_leftAtMost_73
          · have ht := it_n c4 ht
            refine lv_iload_n hx hb dX2_leftAtMost_30 rfl (lv_at hl 1 rfl) ?_
            refine lv_iload_n hx hb dX2_leftAtMost_31 rfl (lv_at hl 3 rfl) ?_
            refine lv_iand hx hb dX2_leftAtMost_32 ?_
            refine q_ri (va_runS (As := [.int (p0 &&& x3)]) (rest := []) ⟨hx, hb, hml, hown, hts⟩ (kJ6_bitCount_0f7a4 l D cI cZ cO (p0 &&& x3)) (va_cwS 1 hts gX2_leftAtMost_J6_bitCount_0f7a4 rfl rfl rfl (by decide +kernel) ⟨Nat.le_of_ble_eq_true rfl, Nat.le_of_ble_eq_true rfl⟩) (q_rS hE q_nil) rfl rfl hl.1 rfl (lv_room (Nat.le_of_ble_eq_true rfl)) dX2_leftAtMost_33 ⟨Nat.le_of_ble_eq_true rfl, Nat.le_of_ble_eq_true rfl⟩) (fun b5 => ?_)
            refine lv_istore (lv' := [(4, .int (xJ6_bitCount_0f7a4 (p0 &&& x3))), (0, .ref (d0 0)), (1, .int p0), (2, .int x2), (3, .int x3)]) hx hb dX2_leftAtMost_36 hl (by decide) rfl (fun ls hl => ?_)
            refine lv_aload_n hx hb dX2_leftAtMost_38 rfl (lv_at hl 1 rfl) ?_
            refine va_get (D := D) (ci := 2) (v := .ref (d0 3)) (C := RX2) (T := TX2) (N := 6) hx hb hts hi2 hown hE.1 hP 0 rfl rfl 2 (by decide) hw0 (fun _ h9 => h9) rfl dX2_leftAtMost_39 ?_
            refine lv_iload hx hb dX2_leftAtMost_42 (lv_at hl 0 rfl) ?_
            refine lv_dup2_11 hx hb dX2_leftAtMost_44 rfl rfl ?_
            obtain ⟨g6, ht⟩ := it_g ht
            refine va_iald hx hb hE.1 hP 3 0 rfl rfl (q_in g6) dX2_leftAtMost_45 ?_
            refine lv_aload_n hx hb dX2_leftAtMost_46 rfl (lv_at hl 1 rfl) ?_
            refine va_get (D := D) (ci := 2) (v := .ref (d0 2)) (C := RX2) (T := TX2) (N := 6) hx hb hts hi2 hown hE.1 hP 0 rfl rfl 1 (by decide) hw1 (fun _ h9 => h9) rfl dX2_leftAtMost_47 ?_
            refine lv_iload_n hx hb dX2_leftAtMost_50 rfl (lv_at hl 4 rfl) ?_
            obtain ⟨g7, ht⟩ := it_g ht
            refine va_iald hx hb hE.1 hP 2 0 rfl rfl (q_in g7) dX2_leftAtMost_51 ?_
            refine lv_iadd hx hb dX2_leftAtMost_52 ?_
            refine va_iast hx hb hE.1 hP (hD _) hS 3 0 rfl rfl (q_in g6) dX2_leftAtMost_53 (fun H locs hP _ hS => ?_)
            have hP : va_P D vwCl (wg2 cI cZ d0 (q_su S0 2 ((xJ6_bitCount_0f7a4 (p0 &&& x3)).toNatClampNeg) ((S0 2 (xJ6_bitCount_0f7a4 (p0 &&& x3)).toNatClampNeg) + (S0 1 x3.toNatClampNeg)))) H := hP
            obtain ⟨T8, eT8⟩ : ∃ z : St, z = q_su S0 2 ((xJ6_bitCount_0f7a4 (p0 &&& x3)).toNatClampNeg) ((S0 2 (xJ6_bitCount_0f7a4 (p0 &&& x3)).toNatClampNeg) + (S0 1 x3.toNatClampNeg)) := ⟨_, rfl⟩
            rw [← eT8] at hP
            have ht := it_l ht eT8
            refine lv_iload_n hx hb dX2_leftAtMost_54 rfl (lv_at hl 3 rfl) ?_
            refine lv_aload_n hx hb dX2_leftAtMost_55 rfl (lv_at hl 1 rfl) ?_
            refine va_get (D := D) (ci := 2) (v := .ref (d0 3)) (C := RX2) (T := TX2) (N := 6) hx hb hts hi2 hown hE.1 hP 0 rfl rfl 2 (by decide) hw0 (fun _ h9 => h9) rfl dX2_leftAtMost_56 ?_
            refine lv_iload hx hb dX2_leftAtMost_59 (lv_at hl 0 rfl) ?_
            refine va_iald hx hb hE.1 hP 3 0 rfl rfl (q_in g6) dX2_leftAtMost_61 ?_
            refine q_mmax hx hb (hml.trans hl.1.symm) hown hw2 hw3 hw4 hw5 (Nat.le_of_ble_eq_true rfl) (Nat.le_of_ble_eq_true rfl) (Nat.le_of_ble_eq_true rfl) (Nat.le_of_ble_eq_true rfl) dX2_leftAtMost_62 ?_
            refine lv_topi (fun y9 ey9 => ?_)
            have ht := it_l ht ey9
            refine lv_istore_n (lv' := [(2, .int y9), (4, .int (xJ6_bitCount_0f7a4 (p0 &&& x3))), (0, .ref (d0 0)), (1, .int p0), (3, .int x3)]) hx hb dX2_leftAtMost_65 rfl hl (by decide) rfl (fun ls hl => ?_)
            refine lv_iinc (v := x3 + 1) (lv' := [(3, .int (x3 + 1)), (2, .int y9), (4, .int (xJ6_bitCount_0f7a4 (p0 &&& x3))), (0, .ref (d0 0)), (1, .int p0)]) hx hb dX2_leftAtMost_66 hl (k := 4) rfl rfl (by decide) rfl (fun ls hl => ?_)
            refine lv_goto (tgt := 24) hx hb dX2_leftAtMost_69 (by decide) ?_
            exact ih24 y9 (x3 + 1) T8 _ _ hP hS ls (lv_sub hl [3, 4, 1, 0] rfl) ht
      refine lv_iload_n hx hb dX2_leftAtMost_2 rfl (lv_at hl 2 rfl) ?_
      refine lv_iconst (v := 4) hx hb dX2_leftAtMost_3 (by decide) ?_
      refine lv_icmp_gt (tgt := 20) hx hb dX2_leftAtMost_4 (by decide) (fun c1 => ?_) (fun c1 => ?_)
      · have ht := it_p c1 ht
        refine lv_iconst (v := 0) hx hb dX2_leftAtMost_20 (by decide) ?_
        refine lv_istore_n (lv' := [(2, .int 0), (0, .ref (d0 0)), (1, .int p0)]) hx hb dX2_leftAtMost_21 rfl hl (by decide) rfl (fun ls hl => ?_)
        refine lv_iconst (v := 0) hx hb dX2_leftAtMost_22 (by decide) ?_
        refine lv_istore_n (lv' := [(3, .int 0), (2, .int 0), (0, .ref (d0 0)), (1, .int p0)]) hx hb dX2_leftAtMost_23 rfl hl (by decide) rfl (fun ls hl => ?_)
        exact L24 5000 0 0 S0 _ _ hP hS ls (lv_sub hl [2, 3, 1, 0] rfl) ht
      · have ht := it_n c1 ht
        refine lv_aload_n hx hb dX2_leftAtMost_7 rfl (lv_at hl 0 rfl) ?_
        refine va_get (D := D) (ci := 2) (v := .ref (d0 3)) (C := RX2) (T := TX2) (N := 6) hx hb hts hi2 hown hE.1 hP 0 rfl rfl 2 (by decide) hw0 (fun _ h9 => h9) rfl dX2_leftAtMost_8 ?_
        refine lv_iload_n hx hb dX2_leftAtMost_11 rfl (lv_at hl 2 rfl) ?_
        refine lv_iconst (v := 0) hx hb dX2_leftAtMost_12 (by decide) ?_
        obtain ⟨g2, ht⟩ := it_g ht
        refine va_iast hx hb hE.1 hP (hD _) hS 3 0 rfl rfl (q_in g2) dX2_leftAtMost_13 (fun H locs hP _ hS => ?_)
        have hP : va_P D vwCl (wg2 cI cZ d0 (q_su S0 2 x2.toNatClampNeg 0)) H := hP
        obtain ⟨T3, eT3⟩ : ∃ z : St, z = q_su S0 2 x2.toNatClampNeg 0 := ⟨_, rfl⟩
        rw [← eT3] at hP
        have ht := it_l ht eT3
        refine lv_iinc (v := x2 + 1) (lv' := [(2, .int (x2 + 1)), (0, .ref (d0 0)), (1, .int p0)]) hx hb dX2_leftAtMost_14 hl (k := 2) rfl rfl (by decide) rfl (fun ls hl => ?_)
        refine lv_goto (tgt := 2) hx hb dX2_leftAtMost_17 (by decide) ?_
        exact ih2 (x2 + 1) T3 _ _ hP hS ls (lv_sub hl [1, 2, 0] rfl) ht
  refine lv_iconst (v := 0) hx hb dX2_leftAtMost_0 (by decide) ?_
  refine lv_istore_n (lv' := [(2, .int 0), (0, .ref (d0 0)), (1, .int p0)]) hx hb dX2_leftAtMost_1 rfl hl (by decide) rfl (fun ls hl => ?_)
  exact L2 5000 0 S0 _ _ hP hS ls (lv_sub hl [1, 2, 0] rfl) ht
abbrev rmX2_findQuestion : Room := { frames := 3, cells := 0, slots := 0, locals := 67 }
set_option maxHeartbeats 4000000 in
set_option maxRecDepth 100000 in
theorem kX2_findQuestion (l : Launch) (D : va_G) (cI cZ cO : ClassId) (d0 : Nat → Nat) (sz : Nat) (S0 : St) (tg : St) (ht : xX2_findQuestion S0 = some tg) : Met l yX2_findQuestion wsX2_findQuestion rmX2_findQuestion (q_PM D cI cZ cO [.ref (d0 0)] sz (wg2 cI cZ d0 S0)) (va_Qv (fun _ : Unit => True) (fun _ t => va_P D vwCl (wg2 cI cZ d0 tg) t.heap) (va_A (wg2 cI cZ d0 S0) sz)) 0 0 (va_A (wg2 cI cZ d0 S0) sz) := by
  refine Met.ofW (cc := cX2_findQuestion) (maxL := 5) (ret := none) (by decide) rfl ?_
  intro p e s m args below meth c s₁ B hml hv
  obtain ⟨rfl, hsz, hE, hP, hD0⟩ := hv
  have hx := B.exec
  have hb := B.bytes
  have hr := B.returns
  have hts := atoms_spec (ws := wsX2_findQuestion) B.pre
  have hown : s.vm.findClass RX2 = some m.cls := findClass_of_methodNamed B.named
  have hlocks := B.notSynchronized
  have hi2 : ∀ w ∈ u_ws RX2 TX2 6, w ∈ wsX2_findQuestion := by decide +kernel
  have hw0 := hts (.fieldLink RX2 25 "HailNames$NetFinder" "question" "I") (by decide +kernel)
  have hw1 := hts (.fieldLink RX2 28 "HailNames$NetFinder" "mostLeft" "I") (by decide +kernel)
  subst hsz
  have hD1 := hD0.self (sz := s.heap.size)
  generalize hAe : va_A (wg2 cI cZ d0 S0) s.heap.size = A at hD1 ⊢
  have hA : ∀ q : Nat, s.heap.size ≤ q → A q := fun q h => by rw [← hAe]; exact Or.inr h
  have hS : va_S A s.heap s.heap [] := va_S.rf
  have hD : ∀ (S0 : St), va_D A (wg2 cI cZ d0 S0) := fun S0 => q_D hD1 rfl
  have hl := lv_entry ([.ref (d0 0)]) (n := 5) (Nat.le_of_ble_eq_true rfl)
  rw [lg_entry_eq]
  generalize (lg_sl ([.ref (d0 0)]) ++ List.replicate (5 - (lg_sl ([.ref (d0 0)])).length) Slot.unset).toArray = ls at hl ⊢
  have hl : lv_has ls 5 [(0, .ref (d0 0))] := hl
  have ht := (xX2_findQuestion_s S0).symm.trans ht
  obtain ⟨Q, hQ⟩ : ∃ Q, Q = MQ below (va_Qv (fun _ : Unit => True) (fun _ t => va_P D vwCl (wg2 cI cZ d0 tg) t.heap) A) ([.ref (d0 0)] : List Value).toArray s 0 0 A := ⟨_, rfl⟩
  rw [← hQ]
  have L14 : ∀ (n : Nat) (x1 : Int32) (S0 : St) (H : Heap) (locs : List Loc) (_ : va_P D vwCl (wg2 cI cZ d0 S0) H) (_ : va_S A s.heap H locs) (ls : Array Slot) (_ : lv_has ls 5 [(0, .ref (d0 0)), (1, .int x1)]) (_ : xX2_findQuestion_h14 n x1 S0 = some tg), W p l e (headSpec wsX2_findQuestion rmX2_findQuestion).room s m ([.ref (d0 0)] : List Value).toArray below meth c H locs 0 0 Q (F0 m 14 ls []) := by
    intro n
    induction n with
    | zero =>
      intro x1 S0 H locs hP hS ls hl ht
      exact it_z ht
    | succ n14 ih14 =>
      intro x1 S0 H locs hP hS ls hl ht
      have ht := (xX2_findQuestion_h14_s n14 x1 S0).symm.trans ht
      have L26 : ∀ (n : Nat) (x1 : Int32) (x2 : Int32) (S0 : St) (H : Heap) (locs : List Loc) (_ : va_P D vwCl (wg2 cI cZ d0 S0) H) (_ : va_S A s.heap H locs) (ls : Array Slot) (_ : lv_has ls 5 [(0, .ref (d0 0)), (1, .int x1), (2, .int x2)]) (_ : xX2_findQuestion_h26 (xX2_findQuestion_h14 n14) n x1 x2 S0 = some tg), W p l e (headSpec wsX2_findQuestion rmX2_findQuestion).room s m ([.ref (d0 0)] : List Value).toArray below meth c H locs 0 0 Q (F0 m 26 ls []) := by
        intro n
        induction n with
        | zero =>
          intro x1 x2 S0 H locs hP hS ls hl ht
          exact it_z ht
        | succ n26 ih26 =>
          intro x1 x2 S0 H locs hP hS ls hl ht
          have ht := (xX2_findQuestion_h26_s (xX2_findQuestion_h14 n14) n26 x1 x2 S0).symm.trans ht
          refine lv_iload_n hx hb dX2_findQuestion_26 rfl (lv_at hl 2 rfl) ?_
          refine lv_bipush (v := 15) hx hb dX2_findQuestion_27 (by decide) ?_
          refine lv_icmp_gt (tgt := 88) hx hb dX2_findQuestion_29 (by decide) (fun c5 => ?_) (fun c5 => ?_)
          · have ht := it_p c5 ht
            refine lv_iinc (v := x1 + 1) (lv' := [(1, .int (x1 + 1)), (0, .ref (d0 0)), (2, .int x2)]) hx hb dX2_findQuestion_88 hl (k := 1) rfl rfl (by decide) rfl (fun ls hl => ?_)
            refine lv_goto (tgt := 14) hx hb dX2_findQuestion_91 (by decide) ?_
            exact ih14 (x1 + 1) S0 _ _ hP hS ls (lv_sub hl [1, 0] rfl) ht
          · have ht := it_n c5 ht
            refine lv_aload_n hx hb dX2_findQuestion_32 rfl (lv_at hl 0 rfl) ?_
            refine lv_iload_n hx hb dX2_findQuestion_33 rfl (lv_at hl 2 rfl) ?_
            obtain ⟨q6, hq6, ht⟩ := it_b ht
            have hFc := q_freeW (hD S0) hS hA
            refine q_mi (va_runV (As := [.int x2]) (rest := []) ⟨hx, hb, hml, hown, hts⟩ (kX2_leftAtMost l D cI cZ cO d0 H.size S0 x2 q6 hq6) (cwV 1 hts gX2_findQuestion_X2_leftAtMost rfl rfl rfl (by decide +kernel) ⟨Nat.le_of_ble_eq_true rfl, Nat.le_of_ble_eq_true rfl⟩) (q_mV (As := [.int x2]) hE hP (hD S0) (q0 := 0) (ci := 2) rfl rfl) rfl rfl hl.1 rfl (lv_room (Nat.le_of_ble_eq_true rfl)) dX2_findQuestion_34 ⟨Nat.le_of_ble_eq_true rfl, Nat.le_of_ble_eq_true rfl⟩) hS hFc (fun H locs b7 hP1 hk hS => ?_)
            have hP : va_P D vwCl (wg2 cI cZ d0 q6.2) H := hP1
            refine lv_istore_n (lv' := [(3, .int q6.1), (0, .ref (d0 0)), (1, .int x1), (2, .int x2)]) hx hb dX2_findQuestion_37 rfl hl (by decide) rfl (fun ls hl => ?_)
            refine lv_bipush (v := 10) hx hb dX2_findQuestion_38 (by decide) ?_
            refine lv_iload_n hx hb dX2_findQuestion_40 rfl (lv_at hl 3 rfl) ?_
            refine lv_imul hx hb dX2_findQuestion_41 ?_
            refine lv_iload_n hx hb dX2_findQuestion_42 rfl (lv_at hl 2 rfl) ?_
            refine lv_iadd hx hb dX2_findQuestion_43 ?_
            refine lv_istore (lv' := [(4, .int ((10 * x2) + x1)), (3, .int q6.1), (0, .ref (d0 0)), (1, .int x1), (2, .int x2)]) hx hb dX2_findQuestion_44 hl (by decide) rfl (fun ls hl => ?_)
            refine lv_iload_n hx hb dX2_findQuestion_46 rfl (lv_at hl 1 rfl) ?_
            refine lv_aload_n hx hb dX2_findQuestion_47 rfl (lv_at hl 2 rfl) ?_
            refine va_get (D := D) (ci := 2) (v := .int (q6.2 5 0)) (C := RX2) (T := TX2) (N := 6) hx hb hts hi2 hown hE.1 hP 0 rfl rfl 5 (by decide) hw1 (fun _ h9 => h9) rfl dX2_findQuestion_48 ?_
            refine lv_icmp_lt (tgt := 71) hx hb dX2_findQuestion_51 (by decide) (fun c8 => ?_) (fun c8 => ?_)
            · have ht := it_p c8 ht
              refine lv_aload_n hx hb dX2_findQuestion_71 rfl (lv_at hl 2 rfl) ?_
              refine lv_iload_n hx hb dX2_findQuestion_72 rfl (lv_at hl 1 rfl) ?_
              refine va_put (D := D) (ci := 2) (v := .int q6.1) (ty := .int) (C := RX2) (T := TX2) (N := 6) hx hb hts hi2 tyX2 tyX2_ok nmX2 hown hE.1 hP (hD _) hS 0 rfl rfl 5 (by decide) hw1 (fun _ h9 => h9) rfl (by decide +kernel) rfl rfl (Nat.le_of_ble_eq_true rfl) dX2_findQuestion_73 (fun H locs hP _ hS => ?_)
              have hP : va_P D vwCl (wg2 cI cZ d0 (q_su q6.2 5 0 q6.1)) H := hP
              obtain ⟨T9, eT9⟩ : ∃ z : St, z = q_su q6.2 5 0 q6.1 := ⟨_, rfl⟩
              rw [← eT9] at hP
              have ht := it_l ht eT9
              refine lv_aload_n hx hb dX2_findQuestion_76 rfl (lv_at hl 2 rfl) ?_
              refine lv_iload hx hb dX2_findQuestion_77 (lv_at hl 0 rfl) ?_
              refine va_put (D := D) (ci := 2) (v := .int ((10 * x2) + x1)) (ty := .int) (C := RX2) (T := TX2) (N := 6) hx hb hts hi2 tyX2 tyX2_ok nmX2 hown hE.1 hP (hD _) hS 0 rfl rfl 4 (by decide) hw0 (fun _ h9 => h9) rfl (by decide +kernel) rfl rfl (Nat.le_of_ble_eq_true rfl) dX2_findQuestion_79 (fun H locs hP _ hS => ?_)
              have hP : va_P D vwCl (wg2 cI cZ d0 (q_su T9 4 0 ((10 * x2) + x1))) H := hP
              obtain ⟨T10, eT10⟩ : ∃ z : St, z = q_su T9 4 0 ((10 * x2) + x1) := ⟨_, rfl⟩
              rw [← eT10] at hP
              have ht := it_l ht eT10
              refine lv_iinc (v := x2 + 1) (lv' := [(2, .int (x2 + 1)), (4, .int ((10 * x2) + x1)), (3, .int q6.1), (0, .ref (d0 0)), (1, .int x1)]) hx hb dX2_findQuestion_82 hl (k := 4) rfl rfl (by decide) rfl (fun ls hl => ?_)
              refine lv_goto (tgt := 26) hx hb dX2_findQuestion_85 (by decide) ?_
              exact ih26 x1 (x2 + 1) T10 _ _ hP hS ls (lv_sub hl [3, 4, 0] rfl) ht
            · have ht := it_n c8 ht
              refine lv_iload_n hx hb dX2_findQuestion_54 rfl (lv_at hl 1 rfl) ?_
              refine lv_aload_n hx hb dX2_findQuestion_55 rfl (lv_at hl 2 rfl) ?_
              refine va_get (D := D) (ci := 2) (v := .int (q6.2 5 0)) (C := RX2) (T := TX2) (N := 6) hx hb hts hi2 hown hE.1 hP 0 rfl rfl 5 (by decide) hw1 (fun _ h9 => h9) rfl dX2_findQuestion_56 ?_
              refine lv_icmp_ne (tgt := 82) hx hb dX2_findQuestion_59 (by decide) (fun c11 => ?_) (fun c11 => ?_)
              · have ht := it_n c11 ht
                refine lv_iinc (v := x2 + 1) (lv' := [(2, .int (x2 + 1)), (4, .int ((10 * x2) + x1)), (3, .int q6.1), (0, .ref (d0 0)), (1, .int x1)]) hx hb dX2_findQuestion_82 hl (k := 4) rfl rfl (by decide) rfl (fun ls hl => ?_)
                refine lv_goto (tgt := 26) hx hb dX2_findQuestion_85 (by decide) ?_
                exact ih26 x1 (x2 + 1) q6.2 _ _ hP hS ls (lv_sub hl [3, 4, 0] rfl) ht
              · have ht := it_p c11 ht
                refine lv_iload hx hb dX2_findQuestion_62 (lv_at hl 0 rfl) ?_
                refine lv_aload_n hx hb dX2_findQuestion_64 rfl (lv_at hl 2 rfl) ?_
                refine va_get (D := D) (ci := 2) (v := .int (q6.2 4 0)) (C := RX2) (T := TX2) (N := 6) hx hb hts hi2 hown hE.1 hP 0 rfl rfl 4 (by decide) hw0 (fun _ h9 => h9) rfl dX2_findQuestion_65 ?_
                refine lv_icmp_ge (tgt := 82) hx hb dX2_findQuestion_68 (by decide) (fun c12 => ?_) (fun c12 => ?_)
                · have ht := it_p c12 ht
                  refine lv_iinc (v := x2 + 1) (lv' := [(2, .int (x2 + 1)), (4, .int ((10 * x2) + x1)), (3, .int q6.1), (0, .ref (d0 0)), (1, .int x1)]) hx hb dX2_findQuestion_82 hl (k := 4) rfl rfl (by decide) rfl (fun ls hl => ?_)
                  refine lv_goto (tgt := 26) hx hb dX2_findQuestion_85 (by decide) ?_
                  exact ih26 x1 (x2 + 1) q6.2 _ _ hP hS ls (lv_sub hl [3, 4, 0] rfl) ht
                · have ht := it_n c12 ht
                  refine lv_aload_n hx hb dX2_findQuestion_71 rfl (lv_at hl 2 rfl) ?_
                  refine lv_iload_n hx hb dX2_findQuestion_72 rfl (lv_at hl 1 rfl) ?_
                  refine va_put (D := D) (ci := 2) (v := .int q6.1) (ty := .int) (C := RX2) (T := TX2) (N := 6) hx hb hts hi2 tyX2 tyX2_ok nmX2 hown hE.1 hP (hD _) hS 0 rfl rfl 5 (by decide) hw1 (fun _ h9 => h9) rfl (by decide +kernel) rfl rfl (Nat.le_of_ble_eq_true rfl) dX2_findQuestion_73 (fun H locs hP _ hS => ?_)
                  have hP : va_P D vwCl (wg2 cI cZ d0 (q_su q6.2 5 0 q6.1)) H := hP
                  obtain ⟨T13, eT13⟩ : ∃ z : St, z = q_su q6.2 5 0 q6.1 := ⟨_, rfl⟩
                  rw [← eT13] at hP
                  have ht := it_l ht eT13
                  refine lv_aload_n hx hb dX2_findQuestion_76 rfl (lv_at hl 2 rfl) ?_
                  refine lv_iload hx hb dX2_findQuestion_77 (lv_at hl 0 rfl) ?_
                  refine va_put (D := D) (ci := 2) (v := .int ((10 * x2) + x1)) (ty := .int) (C := RX2) (T := TX2) (N := 6) hx hb hts hi2 tyX2 tyX2_ok nmX2 hown hE.1 hP (hD _) hS 0 rfl rfl 4 (by decide) hw0 (fun _ h9 => h9) rfl (by decide +kernel) rfl rfl (Nat.le_of_ble_eq_true rfl) dX2_findQuestion_79 (fun H locs hP _ hS => ?_)
                  have hP : va_P D vwCl (wg2 cI cZ d0 (q_su T13 4 0 ((10 * x2) + x1))) H := hP
                  obtain ⟨T14, eT14⟩ : ∃ z : St, z = q_su T13 4 0 ((10 * x2) + x1) := ⟨_, rfl⟩
                  rw [← eT14] at hP
                  have ht := it_l ht eT14
                  refine lv_iinc (v := x2 + 1) (lv' := [(2, .int (x2 + 1)), (4, .int ((10 * x2) + x1)), (3, .int q6.1), (0, .ref (d0 0)), (1, .int x1)]) hx hb dX2_findQuestion_82 hl (k := 4) rfl rfl (by decide) rfl (fun ls hl => ?_)
                  refine lv_goto (tgt := 26) hx hb dX2_findQuestion_85 (by decide) ?_
                  exact ih26 x1 (x2 + 1) T14 _ _ hP hS ls (lv_sub hl [3, 4, 0] rfl) ht
      refine lv_iload_n hx hb dX2_findQuestion_14 rfl (lv_at hl 1 rfl) ?_
      refine lv_iconst (v := 4) hx hb dX2_findQuestion_15 (by decide) ?_
      refine lv_icmp_ge (tgt := 94) hx hb dX2_findQuestion_16 (by decide) (fun c3 => ?_) (fun c3 => ?_)
      · have ht := it_p c3 ht
        subst hQ
        obtain rfl := Option.some.inj ht
        exact W.vret hx hb hr (fun t e1 hW => ⟨⟨(), rfl, trivial, q_at e1 hP⟩, hS.F e1⟩) hS.2.2 dX2_findQuestion_94
      · have ht := it_n c3 ht
        refine lv_aload_n hx hb dX2_findQuestion_19 rfl (lv_at hl 0 rfl) ?_
        refine lv_iload_n hx hb dX2_findQuestion_20 rfl (lv_at hl 1 rfl) ?_
        obtain ⟨q4, hq4, ht⟩ := it_b ht
        have hFc := q_freeW (hD S0) hS hA
        refine q_mv (va_runV (As := [.int x1]) (rest := []) ⟨hx, hb, hml, hown, hts⟩ (kX2_countByThinkers l D cI cZ cO d0 H.size S0 x1 q4 hq4) (cwV 1 hts gX2_findQuestion_X2_countByThinkers rfl rfl rfl (by decide +kernel) ⟨Nat.le_of_ble_eq_true rfl, Nat.le_of_ble_eq_true rfl⟩) (q_mV (As := [.int x1]) hE hP (hD S0) (q0 := 0) (ci := 2) rfl rfl) rfl rfl hl.1 rfl (lv_room (Nat.le_of_ble_eq_true rfl)) dX2_findQuestion_21 ⟨Nat.le_of_ble_eq_true rfl, Nat.le_of_ble_eq_true rfl⟩) hS hFc (fun H locs hP1 hk hS => ?_)
        have hP : va_P D vwCl (wg2 cI cZ d0 q4) H := hP1
        refine lv_iconst (v := 1) hx hb dX2_findQuestion_24 (by decide) ?_
        refine lv_istore_n (lv' := [(2, .int 1), (0, .ref (d0 0)), (1, .int x1)]) hx hb dX2_findQuestion_25 rfl hl (by decide) rfl (fun ls hl => ?_)
        exact L26 5000 x1 1 q4 _ _ hP hS ls (lv_sub hl [1, 2, 0] rfl) ht
  refine lv_aload_n hx hb dX2_findQuestion_0 rfl (lv_at hl 0 rfl) ?_
  refine lv_bipush (v := (-6)) hx hb dX2_findQuestion_1 (by decide) ?_
  refine va_put (D := D) (ci := 2) (v := .int (-6)) (ty := .int) (C := RX2) (T := TX2) (N := 6) hx hb hts hi2 tyX2 tyX2_ok nmX2 hown hE.1 hP (hD _) hS 0 rfl rfl 4 (by decide) hw0 (fun _ h9 => h9) rfl (by decide +kernel) rfl rfl (Nat.le_of_ble_eq_true rfl) dX2_findQuestion_3 (fun H locs hP _ hS => ?_)
  have hP : va_P D vwCl (wg2 cI cZ d0 (q_su S0 4 0 (-6))) H := hP
  obtain ⟨T1, eT1⟩ : ∃ z : St, z = q_su S0 4 0 (-6) := ⟨_, rfl⟩
  rw [← eT1] at hP
  have ht := it_l ht eT1
  refine lv_aload_n hx hb dX2_findQuestion_6 rfl (lv_at hl 0 rfl) ?_
  refine lv_bipush (v := 82) hx hb dX2_findQuestion_7 (by decide) ?_
  refine va_put (D := D) (ci := 2) (v := .int 82) (ty := .int) (C := RX2) (T := TX2) (N := 6) hx hb hts hi2 tyX2 tyX2_ok nmX2 hown hE.1 hP (hD _) hS 0 rfl rfl 5 (by decide) hw1 (fun _ h9 => h9) rfl (by decide +kernel) rfl rfl (Nat.le_of_ble_eq_true rfl) dX2_findQuestion_9 (fun H locs hP _ hS => ?_)
  have hP : va_P D vwCl (wg2 cI cZ d0 (q_su T1 5 0 82)) H := hP
  obtain ⟨T2, eT2⟩ : ∃ z : St, z = q_su T1 5 0 82 := ⟨_, rfl⟩
  rw [← eT2] at hP
  have ht := it_l ht eT2
  refine lv_iconst (v := 0) hx hb dX2_findQuestion_12 (by decide) ?_
  refine lv_istore_n (lv' := [(1, .int 0), (0, .ref (d0 0))]) hx hb dX2_findQuestion_13 rfl hl (by decide) rfl (fun ls hl => ?_)
  exact L14 5000 0 T2 _ _ hP hS ls (lv_sub hl [1, 0] rfl) ht
abbrev rmX5_copyFrom : Room := { frames := 1, cells := 0, slots := 0, locals := 60 }
set_option maxHeartbeats 4000000 in
set_option maxRecDepth 100000 in
theorem kX5_copyFrom (l : Launch) (D : va_G) (cI cZ cO : ClassId) (d0 : Nat → Nat) (d1 : Nat → Nat) (sz : Nat) (S0 : St) (S1 : St) (tg : St) (ht : xX5_copyFrom S1 S0 = some tg) : Met l yX5_copyFrom wsX5_copyFrom rmX5_copyFrom (q_PM D cI cZ cO [.ref (d0 0), .ref (d1 0)] sz (wg5 cI cZ d0 S0 ++ (wg5 cI cZ d1 S1))) (va_Qv (fun _ : Unit => True) (fun _ t => va_P D vwCl (wg5 cI cZ d0 tg ++ (wg5 cI cZ d1 S1)) t.heap) (va_A (wg5 cI cZ d0 S0 ++ (wg5 cI cZ d1 S1)) sz)) 0 0 (va_A (wg5 cI cZ d0 S0 ++ (wg5 cI cZ d1 S1)) sz) := by
  refine Met.ofW (cc := cX5_copyFrom) (maxL := 3) (ret := none) (by decide) rfl ?_
  intro p e s m args below meth c s₁ B hml hv
  obtain ⟨rfl, hsz, hE, hP, hD0⟩ := hv
  have hx := B.exec
  have hb := B.bytes
  have hr := B.returns
  have hts := atoms_spec (ws := wsX5_copyFrom) B.pre
  have hown : s.vm.findClass RX5 = some m.cls := findClass_of_methodNamed B.named
  have hlocks := B.notSynchronized
  have hi5 : ∀ w ∈ u_ws RX5 TX5 11, w ∈ wsX5_copyFrom := by decide +kernel
  have hw0 := hts (.fieldLink RX5 9 "HailNames$Plain" "count" "[I") (by decide +kernel)
  have hw1 := hts (.methodLink RX5 47 arraycopyName) (by decide +kernel)
  have hw2 := hts (.native arraycopyName) (by decide +kernel)
  have hw3 := hts (.static arraycopyName) (by decide +kernel)
  have hw4 := hts (.initialized "java/lang/System") (by decide +kernel)
  have hw5 := hts (.fieldLink RX5 15 "HailNames$Plain" "noted" "[I") (by decide +kernel)
  have hw6 := hts (.fieldLink RX5 18 "HailNames$Plain" "cell" "[I") (by decide +kernel)
  have hw7 := hts (.fieldLink RX5 21 "HailNames$Plain" "size" "[I") (by decide +kernel)
  have hw8 := hts (.fieldLink RX5 24 "HailNames$Plain" "figure" "[I") (by decide +kernel)
  have hw9 := hts (.fieldLink RX5 27 "HailNames$Plain" "place" "[I") (by decide +kernel)
  have hw10 := hts (.fieldLink RX5 30 "HailNames$Plain" "stunned" "[I") (by decide +kernel)
  have hw11 := hts (.fieldLink RX5 33 "HailNames$Plain" "stonesRead" "[I") (by decide +kernel)
  have hw12 := hts (.fieldLink RX5 40 "HailNames$Plain" "melting" "I") (by decide +kernel)
  have hw13 := hts (.fieldLink RX5 44 "HailNames$Plain" "second" "I") (by decide +kernel)
  have hw14 := hts (.fieldLink RX5 36 "HailNames$Plain" "acted" "[Z") (by decide +kernel)
  subst hsz
  have hD1 := hD0.self (sz := s.heap.size)
  generalize hAe : va_A (wg5 cI cZ d0 S0 ++ (wg5 cI cZ d1 S1)) s.heap.size = A at hD1 ⊢
  have hA : ∀ q : Nat, s.heap.size ≤ q → A q := fun q h => by rw [← hAe]; exact Or.inr h
  have hS : va_S A s.heap s.heap [] := va_S.rf
  have hD : ∀ (S0 : St) (S1 : St), va_D A (wg5 cI cZ d0 S0 ++ (wg5 cI cZ d1 S1)) := fun S0 S1 => q_D hD1 rfl
  have hl := lv_entry ([.ref (d0 0), .ref (d1 0)]) (n := 3) (Nat.le_of_ble_eq_true rfl)
  rw [lg_entry_eq]
  generalize (lg_sl ([.ref (d0 0), .ref (d1 0)]) ++ List.replicate (3 - (lg_sl ([.ref (d0 0), .ref (d1 0)])).length) Slot.unset).toArray = ls at hl ⊢
  have hl : lv_has ls 3 [(0, .ref (d0 0)), (1, .ref (d1 0))] := hl
  have ht := (xX5_copyFrom_s S1 S0).symm.trans ht
  obtain ⟨Q, hQ⟩ : ∃ Q, Q = MQ below (va_Qv (fun _ : Unit => True) (fun _ t => va_P D vwCl (wg5 cI cZ d0 tg ++ (wg5 cI cZ d1 S1)) t.heap) A) ([.ref (d0 0), .ref (d1 0)] : List Value).toArray s 0 0 A := ⟨_, rfl⟩
  rw [← hQ]
  have L119 : ∀ (n : Nat) (x2 : Int32) (S0 : St) (H : Heap) (locs : List Loc) (_ : va_P D vwCl (wg5 cI cZ d0 S0 ++ (wg5 cI cZ d1 S1)) H) (_ : va_S A s.heap H locs) (ls : Array Slot) (_ : lv_has ls 3 [(0, .ref (d0 0)), (1, .ref (d1 0)), (2, .int x2)]) (_ : xX5_copyFrom_h119 S1 n x2 S0 = some tg), W p l e (headSpec wsX5_copyFrom rmX5_copyFrom).room s m ([.ref (d0 0), .ref (d1 0)] : List Value).toArray below meth c H locs 0 0 Q (F0 m 119 ls []) := by
    intro n
    induction n with
    | zero =>
      intro x2 S0 H locs hP hS ls hl ht
      exact it_z ht
    | succ n119 ih119 =>
      intro x2 S0 H locs hP hS ls hl ht
      have ht := (xX5_copyFrom_h119_s S1 n119 x2 S0).symm.trans ht
      refine lv_iload_n hx hb dX5_copyFrom_119 rfl (lv_at hl 2 rfl) ?_
      refine lv_iconst (v := 4) hx hb dX5_copyFrom_120 (by decide) ?_
      refine lv_icmp_ge (tgt := 142) hx hb dX5_copyFrom_121 (by decide) (fun c9 => ?_) (fun c9 => ?_)
      · have ht := it_p c9 ht
        refine lv_aload_n hx hb dX5_copyFrom_142 rfl (lv_at hl 0 rfl) ?_
        refine lv_aload_n hx hb dX5_copyFrom_143 rfl (lv_at hl 1 rfl) ?_
        refine va_get (D := D) (ci := 5) (v := .int (S1 9 0)) (C := RX5) (T := TX5) (N := 11) hx hb hts hi5 hown hE.1 hP 10 rfl rfl 9 (by decide) hw12 (fun _ h9 => h9) rfl dX5_copyFrom_144 ?_
        refine va_put (D := D) (ci := 5) (v := .int (S1 9 0)) (ty := .int) (C := RX5) (T := TX5) (N := 11) hx hb hts hi5 tyX5 tyX5_ok nmX5 hown hE.1 hP (hD _ _) hS 0 rfl rfl 9 (by decide) hw12 (fun _ h9 => h9) rfl (by decide +kernel) rfl rfl (Nat.le_of_ble_eq_true rfl) dX5_copyFrom_147 (fun H locs hP _ hS => ?_)
        have hP : va_P D vwCl (wg5 cI cZ d0 (q_su S0 9 0 (S1 9 0)) ++ (wg5 cI cZ d1 S1)) H := hP
        obtain ⟨T10, eT10⟩ : ∃ z : St, z = q_su S0 9 0 (S1 9 0) := ⟨_, rfl⟩
        rw [← eT10] at hP
        have ht := it_l ht eT10
        refine lv_aload_n hx hb dX5_copyFrom_150 rfl (lv_at hl 0 rfl) ?_
        refine lv_aload_n hx hb dX5_copyFrom_151 rfl (lv_at hl 1 rfl) ?_
        refine va_get (D := D) (ci := 5) (v := .int (S1 10 0)) (C := RX5) (T := TX5) (N := 11) hx hb hts hi5 hown hE.1 hP 10 rfl rfl 10 (by decide) hw13 (fun _ h9 => h9) rfl dX5_copyFrom_152 ?_
        refine va_put (D := D) (ci := 5) (v := .int (S1 10 0)) (ty := .int) (C := RX5) (T := TX5) (N := 11) hx hb hts hi5 tyX5 tyX5_ok nmX5 hown hE.1 hP (hD _ _) hS 0 rfl rfl 10 (by decide) hw13 (fun _ h9 => h9) rfl (by decide +kernel) rfl rfl (Nat.le_of_ble_eq_true rfl) dX5_copyFrom_155 (fun H locs hP _ hS => ?_)
        have hP : va_P D vwCl (wg5 cI cZ d0 (q_su T10 10 0 (S1 10 0)) ++ (wg5 cI cZ d1 S1)) H := hP
        obtain ⟨T11, eT11⟩ : ∃ z : St, z = q_su T10 10 0 (S1 10 0) := ⟨_, rfl⟩
        rw [← eT11] at hP
        have ht := it_l ht eT11
        subst hQ
        obtain rfl := Option.some.inj ht
        exact W.vret hx hb hr (fun t e1 hW => ⟨⟨(), rfl, trivial, q_at e1 hP⟩, hS.F e1⟩) hS.2.2 dX5_copyFrom_158
      · have ht := it_n c9 ht
        refine lv_aload_n hx hb dX5_copyFrom_124 rfl (lv_at hl 0 rfl) ?_
        refine va_get (D := D) (ci := 5) (v := .ref (d0 9)) (C := RX5) (T := TX5) (N := 11) hx hb hts hi5 hown hE.1 hP 0 rfl rfl 8 (by decide) hw14 (fun _ h9 => h9) rfl dX5_copyFrom_125 ?_
        refine lv_iload_n hx hb dX5_copyFrom_128 rfl (lv_at hl 2 rfl) ?_
        refine lv_aload_n hx hb dX5_copyFrom_129 rfl (lv_at hl 1 rfl) ?_
        refine va_get (D := D) (ci := 5) (v := .ref (d1 9)) (C := RX5) (T := TX5) (N := 11) hx hb hts hi5 hown hE.1 hP 10 rfl rfl 8 (by decide) hw14 (fun _ h9 => h9) rfl dX5_copyFrom_130 ?_
        refine lv_iload_n hx hb dX5_copyFrom_133 rfl (lv_at hl 2 rfl) ?_
        obtain ⟨g12, ht⟩ := it_g ht
        refine va_zald hx hb hE.1 hP 19 1 rfl rfl (q_in g12) dX5_copyFrom_134 ?_
        refine va_zast hx hb hE.1 hP (hD _ _) hS 9 1 rfl rfl (q_in g12) dX5_copyFrom_135 (fun H locs hP _ hS => ?_)
        have hP : va_P D vwCl (wg5 cI cZ d0 (q_su S0 8 x2.toNatClampNeg (vp_nar .boolean (S1 8 x2.toNatClampNeg))) ++ (wg5 cI cZ d1 S1)) H := hP
        obtain ⟨T13, eT13⟩ : ∃ z : St, z = q_su S0 8 x2.toNatClampNeg (vp_nar .boolean (S1 8 x2.toNatClampNeg)) := ⟨_, rfl⟩
        rw [← eT13] at hP
        have ht := it_l ht eT13
        refine lv_iinc (v := x2 + 1) (lv' := [(2, .int (x2 + 1)), (0, .ref (d0 0)), (1, .ref (d1 0))]) hx hb dX5_copyFrom_136 hl (k := 2) rfl rfl (by decide) rfl (fun ls hl => ?_)
        refine lv_goto (tgt := 119) hx hb dX5_copyFrom_139 (by decide) ?_
        exact ih119 (x2 + 1) T13 _ _ hP hS ls (lv_sub hl [1, 2, 0] rfl) ht
  refine lv_aload_n hx hb dX5_copyFrom_0 rfl (lv_at hl 1 rfl) ?_
  refine va_get (D := D) (ci := 5) (v := .ref (d1 1)) (C := RX5) (T := TX5) (N := 11) hx hb hts hi5 hown hE.1 hP 10 rfl rfl 0 (by decide) hw0 (fun _ h9 => h9) rfl dX5_copyFrom_1 ?_
  refine lv_iconst (v := 0) hx hb dX5_copyFrom_4 (by decide) ?_
  refine lv_aload_n hx hb dX5_copyFrom_5 rfl (lv_at hl 0 rfl) ?_
  refine va_get (D := D) (ci := 5) (v := .ref (d0 1)) (C := RX5) (T := TX5) (N := 11) hx hb hts hi5 hown hE.1 hP 0 rfl rfl 0 (by decide) hw0 (fun _ h9 => h9) rfl dX5_copyFrom_6 ?_
  refine lv_iconst (v := 0) hx hb dX5_copyFrom_9 (by decide) ?_
  refine lv_bipush (v := 8) hx hb dX5_copyFrom_10 (by decide) ?_
  refine va_copyi (ty := .int) hx hb (hml.trans hl.1.symm) hown hw1 hw2 hw3 hw4 hE.1 hP (hD _ _) hS 11 1 0 0 rfl rfl rfl rfl rfl (by decide) (by decide) (by decide) (by decide +kernel) (by decide +kernel) (fun _ _ => rfl) (Nat.le_of_ble_eq_true rfl) (by decide +kernel) dX5_copyFrom_12 (fun H locs hP _ hS => ?_)
  have hP : va_P D vwCl (wg5 cI cZ d0 (q_sr S0 0 (va_cpy (S1 0) (S0 0) (0 : Int32).toNatClampNeg (0 : Int32).toNatClampNeg (8 : Int32).toNatClampNeg)) ++ (wg5 cI cZ d1 S1)) H := hP
  obtain ⟨T1, eT1⟩ : ∃ z : St, z = q_sr S0 0 (va_cpy (S1 0) (S0 0) (0 : Int32).toNatClampNeg (0 : Int32).toNatClampNeg (8 : Int32).toNatClampNeg) := ⟨_, rfl⟩
  rw [← eT1] at hP
  have ht := it_l ht eT1
  refine lv_aload_n hx hb dX5_copyFrom_15 rfl (lv_at hl 1 rfl) ?_
  refine va_get (D := D) (ci := 5) (v := .ref (d1 2)) (C := RX5) (T := TX5) (N := 11) hx hb hts hi5 hown hE.1 hP 10 rfl rfl 1 (by decide) hw5 (fun _ h9 => h9) rfl dX5_copyFrom_16 ?_
  refine lv_iconst (v := 0) hx hb dX5_copyFrom_19 (by decide) ?_
  refine lv_aload_n hx hb dX5_copyFrom_20 rfl (lv_at hl 0 rfl) ?_
  refine va_get (D := D) (ci := 5) (v := .ref (d0 2)) (C := RX5) (T := TX5) (N := 11) hx hb hts hi5 hown hE.1 hP 0 rfl rfl 1 (by decide) hw5 (fun _ h9 => h9) rfl dX5_copyFrom_21 ?_
  refine lv_iconst (v := 0) hx hb dX5_copyFrom_24 (by decide) ?_
  refine lv_bipush (v := 8) hx hb dX5_copyFrom_25 (by decide) ?_
  refine va_copyi (ty := .int) hx hb (hml.trans hl.1.symm) hown hw1 hw2 hw3 hw4 hE.1 hP (hD _ _) hS 12 2 0 0 rfl rfl rfl rfl rfl (by decide) (by decide) (by decide) (by decide +kernel) (by decide +kernel) (fun _ _ => rfl) (Nat.le_of_ble_eq_true rfl) (by decide +kernel) dX5_copyFrom_27 (fun H locs hP _ hS => ?_)
  have hP : va_P D vwCl (wg5 cI cZ d0 (q_sr T1 1 (va_cpy (S1 1) (T1 1) (0 : Int32).toNatClampNeg (0 : Int32).toNatClampNeg (8 : Int32).toNatClampNeg)) ++ (wg5 cI cZ d1 S1)) H := hP
  obtain ⟨T2, eT2⟩ : ∃ z : St, z = q_sr T1 1 (va_cpy (S1 1) (T1 1) (0 : Int32).toNatClampNeg (0 : Int32).toNatClampNeg (8 : Int32).toNatClampNeg) := ⟨_, rfl⟩
  rw [← eT2] at hP
  have ht := it_l ht eT2
  refine lv_aload_n hx hb dX5_copyFrom_30 rfl (lv_at hl 1 rfl) ?_
  refine va_get (D := D) (ci := 5) (v := .ref (d1 3)) (C := RX5) (T := TX5) (N := 11) hx hb hts hi5 hown hE.1 hP 10 rfl rfl 2 (by decide) hw6 (fun _ h9 => h9) rfl dX5_copyFrom_31 ?_
  refine lv_iconst (v := 0) hx hb dX5_copyFrom_34 (by decide) ?_
  refine lv_aload_n hx hb dX5_copyFrom_35 rfl (lv_at hl 0 rfl) ?_
  refine va_get (D := D) (ci := 5) (v := .ref (d0 3)) (C := RX5) (T := TX5) (N := 11) hx hb hts hi5 hown hE.1 hP 0 rfl rfl 2 (by decide) hw6 (fun _ h9 => h9) rfl dX5_copyFrom_36 ?_
  refine lv_iconst (v := 0) hx hb dX5_copyFrom_39 (by decide) ?_
  refine lv_bipush (v := 8) hx hb dX5_copyFrom_40 (by decide) ?_
  refine va_copyi (ty := .int) hx hb (hml.trans hl.1.symm) hown hw1 hw2 hw3 hw4 hE.1 hP (hD _ _) hS 13 3 0 0 rfl rfl rfl rfl rfl (by decide) (by decide) (by decide) (by decide +kernel) (by decide +kernel) (fun _ _ => rfl) (Nat.le_of_ble_eq_true rfl) (by decide +kernel) dX5_copyFrom_42 (fun H locs hP _ hS => ?_)
  have hP : va_P D vwCl (wg5 cI cZ d0 (q_sr T2 2 (va_cpy (S1 2) (T2 2) (0 : Int32).toNatClampNeg (0 : Int32).toNatClampNeg (8 : Int32).toNatClampNeg)) ++ (wg5 cI cZ d1 S1)) H := hP
  obtain ⟨T3, eT3⟩ : ∃ z : St, z = q_sr T2 2 (va_cpy (S1 2) (T2 2) (0 : Int32).toNatClampNeg (0 : Int32).toNatClampNeg (8 : Int32).toNatClampNeg) := ⟨_, rfl⟩
  rw [← eT3] at hP
  have ht := it_l ht eT3
  refine lv_aload_n hx hb dX5_copyFrom_45 rfl (lv_at hl 1 rfl) ?_
  refine va_get (D := D) (ci := 5) (v := .ref (d1 4)) (C := RX5) (T := TX5) (N := 11) hx hb hts hi5 hown hE.1 hP 10 rfl rfl 3 (by decide) hw7 (fun _ h9 => h9) rfl dX5_copyFrom_46 ?_
  refine lv_iconst (v := 0) hx hb dX5_copyFrom_49 (by decide) ?_
  refine lv_aload_n hx hb dX5_copyFrom_50 rfl (lv_at hl 0 rfl) ?_
  refine va_get (D := D) (ci := 5) (v := .ref (d0 4)) (C := RX5) (T := TX5) (N := 11) hx hb hts hi5 hown hE.1 hP 0 rfl rfl 3 (by decide) hw7 (fun _ h9 => h9) rfl dX5_copyFrom_51 ?_
  refine lv_iconst (v := 0) hx hb dX5_copyFrom_54 (by decide) ?_
  refine lv_bipush (v := 8) hx hb dX5_copyFrom_55 (by decide) ?_
  refine va_copyi (ty := .int) hx hb (hml.trans hl.1.symm) hown hw1 hw2 hw3 hw4 hE.1 hP (hD _ _) hS 14 4 0 0 rfl rfl rfl rfl rfl (by decide) (by decide) (by decide) (by decide +kernel) (by decide +kernel) (fun _ _ => rfl) (Nat.le_of_ble_eq_true rfl) (by decide +kernel) dX5_copyFrom_57 (fun H locs hP _ hS => ?_)
  have hP : va_P D vwCl (wg5 cI cZ d0 (q_sr T3 3 (va_cpy (S1 3) (T3 3) (0 : Int32).toNatClampNeg (0 : Int32).toNatClampNeg (8 : Int32).toNatClampNeg)) ++ (wg5 cI cZ d1 S1)) H := hP
  obtain ⟨T4, eT4⟩ : ∃ z : St, z = q_sr T3 3 (va_cpy (S1 3) (T3 3) (0 : Int32).toNatClampNeg (0 : Int32).toNatClampNeg (8 : Int32).toNatClampNeg) := ⟨_, rfl⟩
  rw [← eT4] at hP
  have ht := it_l ht eT4
  refine lv_aload_n hx hb dX5_copyFrom_60 rfl (lv_at hl 1 rfl) ?_
  refine va_get (D := D) (ci := 5) (v := .ref (d1 5)) (C := RX5) (T := TX5) (N := 11) hx hb hts hi5 hown hE.1 hP 10 rfl rfl 4 (by decide) hw8 (fun _ h9 => h9) rfl dX5_copyFrom_61 ?_
  refine lv_iconst (v := 0) hx hb dX5_copyFrom_64 (by decide) ?_
  refine lv_aload_n hx hb dX5_copyFrom_65 rfl (lv_at hl 0 rfl) ?_
  refine va_get (D := D) (ci := 5) (v := .ref (d0 5)) (C := RX5) (T := TX5) (N := 11) hx hb hts hi5 hown hE.1 hP 0 rfl rfl 4 (by decide) hw8 (fun _ h9 => h9) rfl dX5_copyFrom_66 ?_
  refine lv_iconst (v := 0) hx hb dX5_copyFrom_69 (by decide) ?_
  refine lv_bipush (v := 8) hx hb dX5_copyFrom_70 (by decide) ?_
  refine va_copyi (ty := .int) hx hb (hml.trans hl.1.symm) hown hw1 hw2 hw3 hw4 hE.1 hP (hD _ _) hS 15 5 0 0 rfl rfl rfl rfl rfl (by decide) (by decide) (by decide) (by decide +kernel) (by decide +kernel) (fun _ _ => rfl) (Nat.le_of_ble_eq_true rfl) (by decide +kernel) dX5_copyFrom_72 (fun H locs hP _ hS => ?_)
  have hP : va_P D vwCl (wg5 cI cZ d0 (q_sr T4 4 (va_cpy (S1 4) (T4 4) (0 : Int32).toNatClampNeg (0 : Int32).toNatClampNeg (8 : Int32).toNatClampNeg)) ++ (wg5 cI cZ d1 S1)) H := hP
  obtain ⟨T5, eT5⟩ : ∃ z : St, z = q_sr T4 4 (va_cpy (S1 4) (T4 4) (0 : Int32).toNatClampNeg (0 : Int32).toNatClampNeg (8 : Int32).toNatClampNeg) := ⟨_, rfl⟩
  rw [← eT5] at hP
  have ht := it_l ht eT5
  refine lv_aload_n hx hb dX5_copyFrom_75 rfl (lv_at hl 1 rfl) ?_
  refine va_get (D := D) (ci := 5) (v := .ref (d1 6)) (C := RX5) (T := TX5) (N := 11) hx hb hts hi5 hown hE.1 hP 10 rfl rfl 5 (by decide) hw9 (fun _ h9 => h9) rfl dX5_copyFrom_76 ?_
  refine lv_iconst (v := 0) hx hb dX5_copyFrom_79 (by decide) ?_
  refine lv_aload_n hx hb dX5_copyFrom_80 rfl (lv_at hl 0 rfl) ?_
  refine va_get (D := D) (ci := 5) (v := .ref (d0 6)) (C := RX5) (T := TX5) (N := 11) hx hb hts hi5 hown hE.1 hP 0 rfl rfl 5 (by decide) hw9 (fun _ h9 => h9) rfl dX5_copyFrom_81 ?_
  refine lv_iconst (v := 0) hx hb dX5_copyFrom_84 (by decide) ?_
  refine lv_iconst (v := 4) hx hb dX5_copyFrom_85 (by decide) ?_
  refine va_copyi (ty := .int) hx hb (hml.trans hl.1.symm) hown hw1 hw2 hw3 hw4 hE.1 hP (hD _ _) hS 16 6 0 0 rfl rfl rfl rfl rfl (by decide) (by decide) (by decide) (by decide +kernel) (by decide +kernel) (fun _ _ => rfl) (Nat.le_of_ble_eq_true rfl) (by decide +kernel) dX5_copyFrom_86 (fun H locs hP _ hS => ?_)
  have hP : va_P D vwCl (wg5 cI cZ d0 (q_sr T5 5 (va_cpy (S1 5) (T5 5) (0 : Int32).toNatClampNeg (0 : Int32).toNatClampNeg (4 : Int32).toNatClampNeg)) ++ (wg5 cI cZ d1 S1)) H := hP
  obtain ⟨T6, eT6⟩ : ∃ z : St, z = q_sr T5 5 (va_cpy (S1 5) (T5 5) (0 : Int32).toNatClampNeg (0 : Int32).toNatClampNeg (4 : Int32).toNatClampNeg) := ⟨_, rfl⟩
  rw [← eT6] at hP
  have ht := it_l ht eT6
  refine lv_aload_n hx hb dX5_copyFrom_89 rfl (lv_at hl 1 rfl) ?_
  refine va_get (D := D) (ci := 5) (v := .ref (d1 7)) (C := RX5) (T := TX5) (N := 11) hx hb hts hi5 hown hE.1 hP 10 rfl rfl 6 (by decide) hw10 (fun _ h9 => h9) rfl dX5_copyFrom_90 ?_
  refine lv_iconst (v := 0) hx hb dX5_copyFrom_93 (by decide) ?_
  refine lv_aload_n hx hb dX5_copyFrom_94 rfl (lv_at hl 0 rfl) ?_
  refine va_get (D := D) (ci := 5) (v := .ref (d0 7)) (C := RX5) (T := TX5) (N := 11) hx hb hts hi5 hown hE.1 hP 0 rfl rfl 6 (by decide) hw10 (fun _ h9 => h9) rfl dX5_copyFrom_95 ?_
  refine lv_iconst (v := 0) hx hb dX5_copyFrom_98 (by decide) ?_
  refine lv_iconst (v := 4) hx hb dX5_copyFrom_99 (by decide) ?_
  refine va_copyi (ty := .int) hx hb (hml.trans hl.1.symm) hown hw1 hw2 hw3 hw4 hE.1 hP (hD _ _) hS 17 7 0 0 rfl rfl rfl rfl rfl (by decide) (by decide) (by decide) (by decide +kernel) (by decide +kernel) (fun _ _ => rfl) (Nat.le_of_ble_eq_true rfl) (by decide +kernel) dX5_copyFrom_100 (fun H locs hP _ hS => ?_)
  have hP : va_P D vwCl (wg5 cI cZ d0 (q_sr T6 6 (va_cpy (S1 6) (T6 6) (0 : Int32).toNatClampNeg (0 : Int32).toNatClampNeg (4 : Int32).toNatClampNeg)) ++ (wg5 cI cZ d1 S1)) H := hP
  obtain ⟨T7, eT7⟩ : ∃ z : St, z = q_sr T6 6 (va_cpy (S1 6) (T6 6) (0 : Int32).toNatClampNeg (0 : Int32).toNatClampNeg (4 : Int32).toNatClampNeg) := ⟨_, rfl⟩
  rw [← eT7] at hP
  have ht := it_l ht eT7
  refine lv_aload_n hx hb dX5_copyFrom_103 rfl (lv_at hl 1 rfl) ?_
  refine va_get (D := D) (ci := 5) (v := .ref (d1 8)) (C := RX5) (T := TX5) (N := 11) hx hb hts hi5 hown hE.1 hP 10 rfl rfl 7 (by decide) hw11 (fun _ h9 => h9) rfl dX5_copyFrom_104 ?_
  refine lv_iconst (v := 0) hx hb dX5_copyFrom_107 (by decide) ?_
  refine lv_aload_n hx hb dX5_copyFrom_108 rfl (lv_at hl 0 rfl) ?_
  refine va_get (D := D) (ci := 5) (v := .ref (d0 8)) (C := RX5) (T := TX5) (N := 11) hx hb hts hi5 hown hE.1 hP 0 rfl rfl 7 (by decide) hw11 (fun _ h9 => h9) rfl dX5_copyFrom_109 ?_
  refine lv_iconst (v := 0) hx hb dX5_copyFrom_112 (by decide) ?_
  refine lv_iconst (v := 4) hx hb dX5_copyFrom_113 (by decide) ?_
  refine va_copyi (ty := .int) hx hb (hml.trans hl.1.symm) hown hw1 hw2 hw3 hw4 hE.1 hP (hD _ _) hS 18 8 0 0 rfl rfl rfl rfl rfl (by decide) (by decide) (by decide) (by decide +kernel) (by decide +kernel) (fun _ _ => rfl) (Nat.le_of_ble_eq_true rfl) (by decide +kernel) dX5_copyFrom_114 (fun H locs hP _ hS => ?_)
  have hP : va_P D vwCl (wg5 cI cZ d0 (q_sr T7 7 (va_cpy (S1 7) (T7 7) (0 : Int32).toNatClampNeg (0 : Int32).toNatClampNeg (4 : Int32).toNatClampNeg)) ++ (wg5 cI cZ d1 S1)) H := hP
  obtain ⟨T8, eT8⟩ : ∃ z : St, z = q_sr T7 7 (va_cpy (S1 7) (T7 7) (0 : Int32).toNatClampNeg (0 : Int32).toNatClampNeg (4 : Int32).toNatClampNeg) := ⟨_, rfl⟩
  rw [← eT8] at hP
  have ht := it_l ht eT8
  refine lv_iconst (v := 0) hx hb dX5_copyFrom_117 (by decide) ?_
  refine lv_istore_n (lv' := [(2, .int 0), (0, .ref (d0 0)), (1, .ref (d1 0))]) hx hb dX5_copyFrom_118 rfl hl (by decide) rfl (fun ls hl => ?_)
  exact L119 5000 0 T8 _ _ hP hS ls (lv_sub hl [1, 2, 0] rfl) ht
abbrev rmX3_startFrom : Room := { frames := 2, cells := 0, slots := 0, locals := 82 }
set_option maxHeartbeats 4000000 in
set_option maxRecDepth 100000 in
theorem kX3_startFrom (l : Launch) (D : va_G) (cI cZ cO : ClassId) (d0 : Nat → Nat) (d1 : Nat → Nat) (d2 : Nat → Nat) (d3 : Nat → Nat) (sz : Nat) (S0 : St) (S1 : St) (S3 : St) (tg : St × St) (ht : xX3_startFrom S3 S0 S1 = some tg) : Met l yX3_startFrom wsX3_startFrom rmX3_startFrom (q_PM D cI cZ cO [.ref (d0 0), .ref (d3 0)] sz (wg3 d0 d1 d2 S0 ++ (wg5 cI cZ d1 S1 ++ (wg5 cI cZ d3 S3)))) (va_Qv (fun _ : Unit => True) (fun _ t => va_P D vwCl (wg3 d0 d1 d2 tg.1 ++ (wg5 cI cZ d1 tg.2 ++ (wg5 cI cZ d3 S3))) t.heap) (va_A (wg3 d0 d1 d2 S0 ++ (wg5 cI cZ d1 S1 ++ (wg5 cI cZ d3 S3))) sz)) 0 0 (va_A (wg3 d0 d1 d2 S0 ++ (wg5 cI cZ d1 S1 ++ (wg5 cI cZ d3 S3))) sz) := by
  refine Met.ofW (cc := cX3_startFrom) (maxL := 2) (ret := none) (by decide) rfl ?_
  intro p e s m args below meth c s₁ B hml hv
  obtain ⟨rfl, hsz, hE, hP, hD0⟩ := hv
  have hx := B.exec
  have hb := B.bytes
  have hr := B.returns
  have hts := atoms_spec (ws := wsX3_startFrom) B.pre
  have hown : s.vm.findClass RX3 = some m.cls := findClass_of_methodNamed B.named
  have hlocks := B.notSynchronized
  have hi3 : ∀ w ∈ u_ws RX3 TX3 8, w ∈ wsX3_startFrom := by decide +kernel
  have hw0 := hts (.fieldLink RX3 12 "HailNames$Outcome" "after" "LHailNames$Plain;") (by decide +kernel)
  have hw1 := hts (.fieldLink RX3 25 "HailNames$Outcome" "acts" "I") (by decide +kernel)
  have hw2 := hts (.fieldLink RX3 29 "HailNames$Outcome" "badAct" "I") (by decide +kernel)
  have hw3 := hts (.fieldLink RX3 32 "HailNames$Outcome" "why" "I") (by decide +kernel)
  have hw4 := hts (.fieldLink RX3 35 "HailNames$Outcome" "stonesLost" "I") (by decide +kernel)
  have hw5 := hts (.fieldLink RX3 38 "HailNames$Outcome" "lossAct" "I") (by decide +kernel)
  have hw6 := hts (.fieldLink RX3 41 "HailNames$Outcome" "lossPerson" "I") (by decide +kernel)
  subst hsz
  have hD1 := hD0.self (sz := s.heap.size)
  generalize hAe : va_A (wg3 d0 d1 d2 S0 ++ (wg5 cI cZ d1 S1 ++ (wg5 cI cZ d3 S3))) s.heap.size = A at hD1 ⊢
  have hA : ∀ q : Nat, s.heap.size ≤ q → A q := fun q h => by rw [← hAe]; exact Or.inr h
  have hS : va_S A s.heap s.heap [] := va_S.rf
  have hD : ∀ (S0 : St) (S1 : St) (S3 : St), va_D A (wg3 d0 d1 d2 S0 ++ (wg5 cI cZ d1 S1 ++ (wg5 cI cZ d3 S3))) := fun S0 S1 S3 => q_D hD1 rfl
  have hl := lv_entry ([.ref (d0 0), .ref (d3 0)]) (n := 2) (Nat.le_of_ble_eq_true rfl)
  rw [lg_entry_eq]
  generalize (lg_sl ([.ref (d0 0), .ref (d3 0)]) ++ List.replicate (2 - (lg_sl ([.ref (d0 0), .ref (d3 0)])).length) Slot.unset).toArray = ls at hl ⊢
  have hl : lv_has ls 2 [(0, .ref (d0 0)), (1, .ref (d3 0))] := hl
  have ht := (xX3_startFrom_s S3 S0 S1).symm.trans ht
  refine lv_aload_n hx hb dX3_startFrom_0 rfl (lv_at hl 0 rfl) ?_
  refine va_get (D := D) (ci := 3) (v := .ref (d1 0)) (C := RX3) (T := TX3) (N := 8) hx hb hts hi3 hown hE.1 hP 0 rfl rfl 0 (by decide) hw0 (fun _ h9 => h9) rfl dX3_startFrom_1 ?_
  refine lv_aload_n hx hb dX3_startFrom_4 rfl (lv_at hl 1 rfl) ?_
  obtain ⟨q1, hq1, ht⟩ := it_b ht
  have hPc : va_P D vwCl (wg5 cI cZ d1 S1 ++ (wg5 cI cZ d3 S3)) s.heap := hP.sub [1, 2, 3, 4, 5, 6, 7, 8, 9, 10, 11, 12, 13, 14, 15, 16, 17, 18, 19, 20] rfl
  have hDc : va_D A (wg5 cI cZ d1 S1 ++ (wg5 cI cZ d3 S3)) := ((hD S0 S1 S3)).sub [1, 2, 3, 4, 5, 6, 7, 8, 9, 10, 11, 12, 13, 14, 15, 16, 17, 18, 19, 20] (by decide) rfl
  have hFc := va_free (wc := (wg5 cI cZ d1 S1 ++ (wg5 cI cZ d3 S3))) (hD S0 S1 S3) hS hA [1, 2, 3, 4, 5, 6, 7, 8, 9, 10, 11, 12, 13, 14, 15, 16, 17, 18, 19, 20] rfl
  refine q_mv (va_runV (As := [.ref (d3 0)]) (rest := []) ⟨hx, hb, hml, hown, hts⟩ (kX5_copyFrom l D cI cZ cO d1 d3 s.heap.size S1 S3 q1 hq1) (cwV 1 hts gX3_startFrom_X5_copyFrom rfl rfl rfl (by decide +kernel) ⟨Nat.le_of_ble_eq_true rfl, Nat.le_of_ble_eq_true rfl⟩) (q_mV (As := [.ref (d3 0)]) hE hPc hDc (q0 := 0) (ci := 5) rfl rfl) rfl rfl hl.1 rfl (lv_room (Nat.le_of_ble_eq_true rfl)) dX3_startFrom_5 ⟨Nat.le_of_ble_eq_true rfl, Nat.le_of_ble_eq_true rfl⟩) hS hFc (fun H locs hP1 hk hS => ?_)
  have hP : va_P D vwCl (wg3 d0 d1 d2 S0 ++ (wg5 cI cZ d1 q1 ++ (wg5 cI cZ d3 S3))) H := (q_join (wr := (wg3 d0 d1 d2 S0)) hP (hD S0 S1 S3) [1, 2, 3, 4, 5, 6, 7, 8, 9, 10, 11, 12, 13, 14, 15, 16, 17, 18, 19, 20] [0] rfl rfl (by decide) (by decide) hk hFc hP1 hDc rfl).sub [0, 1, 2, 3, 4, 5, 6, 7, 8, 9, 10, 11, 12, 13, 14, 15, 16, 17, 18, 19, 20] rfl
  refine lv_aload_n hx hb dX3_startFrom_8 rfl (lv_at hl 0 rfl) ?_
  refine lv_iconst (v := 0) hx hb dX3_startFrom_9 (by decide) ?_
  refine va_put (D := D) (ci := 3) (v := .int 0) (ty := .int) (C := RX3) (T := TX3) (N := 8) hx hb hts hi3 tyX3 tyX3_ok nmX3 hown hE.1 hP (hD _ _ _) hS 0 rfl rfl 2 (by decide) hw1 (fun _ h9 => h9) rfl (by decide +kernel) rfl rfl (Nat.le_of_ble_eq_true rfl) dX3_startFrom_10 (fun H locs hP _ hS => ?_)
  have hP : va_P D vwCl (wg3 d0 d1 d2 (q_su S0 2 0 0) ++ (wg5 cI cZ d1 q1 ++ (wg5 cI cZ d3 S3))) H := hP
  obtain ⟨T2, eT2⟩ : ∃ z : St, z = q_su S0 2 0 0 := ⟨_, rfl⟩
  rw [← eT2] at hP
  have ht := it_l ht eT2
  refine lv_aload_n hx hb dX3_startFrom_13 rfl (lv_at hl 0 rfl) ?_
  refine lv_bipush (v := (-6)) hx hb dX3_startFrom_14 (by decide) ?_
  refine va_put (D := D) (ci := 3) (v := .int (-6)) (ty := .int) (C := RX3) (T := TX3) (N := 8) hx hb hts hi3 tyX3 tyX3_ok nmX3 hown hE.1 hP (hD _ _ _) hS 0 rfl rfl 3 (by decide) hw2 (fun _ h9 => h9) rfl (by decide +kernel) rfl rfl (Nat.le_of_ble_eq_true rfl) dX3_startFrom_16 (fun H locs hP _ hS => ?_)
  have hP : va_P D vwCl (wg3 d0 d1 d2 (q_su T2 3 0 (-6)) ++ (wg5 cI cZ d1 q1 ++ (wg5 cI cZ d3 S3))) H := hP
  obtain ⟨T3, eT3⟩ : ∃ z : St, z = q_su T2 3 0 (-6) := ⟨_, rfl⟩
  rw [← eT3] at hP
  have ht := it_l ht eT3
  refine lv_aload_n hx hb dX3_startFrom_19 rfl (lv_at hl 0 rfl) ?_
  refine lv_bipush (v := (-6)) hx hb dX3_startFrom_20 (by decide) ?_
  refine va_put (D := D) (ci := 3) (v := .int (-6)) (ty := .int) (C := RX3) (T := TX3) (N := 8) hx hb hts hi3 tyX3 tyX3_ok nmX3 hown hE.1 hP (hD _ _ _) hS 0 rfl rfl 4 (by decide) hw3 (fun _ h9 => h9) rfl (by decide +kernel) rfl rfl (Nat.le_of_ble_eq_true rfl) dX3_startFrom_22 (fun H locs hP _ hS => ?_)
  have hP : va_P D vwCl (wg3 d0 d1 d2 (q_su T3 4 0 (-6)) ++ (wg5 cI cZ d1 q1 ++ (wg5 cI cZ d3 S3))) H := hP
  obtain ⟨T4, eT4⟩ : ∃ z : St, z = q_su T3 4 0 (-6) := ⟨_, rfl⟩
  rw [← eT4] at hP
  have ht := it_l ht eT4
  refine lv_aload_n hx hb dX3_startFrom_25 rfl (lv_at hl 0 rfl) ?_
  refine lv_iconst (v := 0) hx hb dX3_startFrom_26 (by decide) ?_
  refine va_put (D := D) (ci := 3) (v := .int 0) (ty := .int) (C := RX3) (T := TX3) (N := 8) hx hb hts hi3 tyX3 tyX3_ok nmX3 hown hE.1 hP (hD _ _ _) hS 0 rfl rfl 5 (by decide) hw4 (fun _ h9 => h9) rfl (by decide +kernel) rfl rfl (Nat.le_of_ble_eq_true rfl) dX3_startFrom_27 (fun H locs hP _ hS => ?_)
  have hP : va_P D vwCl (wg3 d0 d1 d2 (q_su T4 5 0 0) ++ (wg5 cI cZ d1 q1 ++ (wg5 cI cZ d3 S3))) H := hP
  obtain ⟨T5, eT5⟩ : ∃ z : St, z = q_su T4 5 0 0 := ⟨_, rfl⟩
  rw [← eT5] at hP
  have ht := it_l ht eT5
  refine lv_aload_n hx hb dX3_startFrom_30 rfl (lv_at hl 0 rfl) ?_
  refine lv_bipush (v := (-6)) hx hb dX3_startFrom_31 (by decide) ?_
  refine va_put (D := D) (ci := 3) (v := .int (-6)) (ty := .int) (C := RX3) (T := TX3) (N := 8) hx hb hts hi3 tyX3 tyX3_ok nmX3 hown hE.1 hP (hD _ _ _) hS 0 rfl rfl 6 (by decide) hw5 (fun _ h9 => h9) rfl (by decide +kernel) rfl rfl (Nat.le_of_ble_eq_true rfl) dX3_startFrom_33 (fun H locs hP _ hS => ?_)
  have hP : va_P D vwCl (wg3 d0 d1 d2 (q_su T5 6 0 (-6)) ++ (wg5 cI cZ d1 q1 ++ (wg5 cI cZ d3 S3))) H := hP
  obtain ⟨T6, eT6⟩ : ∃ z : St, z = q_su T5 6 0 (-6) := ⟨_, rfl⟩
  rw [← eT6] at hP
  have ht := it_l ht eT6
  refine lv_aload_n hx hb dX3_startFrom_36 rfl (lv_at hl 0 rfl) ?_
  refine lv_bipush (v := (-6)) hx hb dX3_startFrom_37 (by decide) ?_
  refine va_put (D := D) (ci := 3) (v := .int (-6)) (ty := .int) (C := RX3) (T := TX3) (N := 8) hx hb hts hi3 tyX3 tyX3_ok nmX3 hown hE.1 hP (hD _ _ _) hS 0 rfl rfl 7 (by decide) hw6 (fun _ h9 => h9) rfl (by decide +kernel) rfl rfl (Nat.le_of_ble_eq_true rfl) dX3_startFrom_39 (fun H locs hP _ hS => ?_)
  have hP : va_P D vwCl (wg3 d0 d1 d2 (q_su T6 7 0 (-6)) ++ (wg5 cI cZ d1 q1 ++ (wg5 cI cZ d3 S3))) H := hP
  obtain ⟨T7, eT7⟩ : ∃ z : St, z = q_su T6 7 0 (-6) := ⟨_, rfl⟩
  rw [← eT7] at hP
  have ht := it_l ht eT7
  obtain rfl := Option.some.inj ht
  exact W.vret hx hb hr (fun t e1 hW => ⟨⟨(), rfl, trivial, q_at e1 hP⟩, hS.F e1⟩) hS.2.2 dX3_startFrom_42
abbrev rmX4_signAt : Room := { frames := 0, cells := 0, slots := 0, locals := 0 }
set_option maxHeartbeats 4000000 in
set_option maxRecDepth 100000 in
theorem kX4_signAt (l : Launch) (D : va_G) (cI cZ cO : ClassId) (d0 : Nat → Nat) (S0 : St) (p0 : Int32) (tg : Int32) (ht : xX4_signAt S0 p0 = some tg) : Met l yX4_signAt wsX4_signAt rmX4_signAt (q_PR D cI cZ cO [.ref (d0 0), .int p0] (wg4 cI cZ d0 S0)) (vp_Si (fun x => x = tg ∧ True)) 0 0 (fun _ => False) := by
  refine Met.ofW (cc := cX4_signAt) (maxL := 2) (ret := (some .int)) (by decide) rfl ?_
  intro p e s m args below meth c s₁ B hml hv
  obtain ⟨rfl, hE, hP⟩ := hv
  have hx := B.exec
  have hb := B.bytes
  have hr := B.returns
  have hts := atoms_spec (ws := wsX4_signAt) B.pre
  have hown : s.vm.findClass RX4 = some m.cls := findClass_of_methodNamed B.named
  have hlocks := B.notSynchronized
  have hi4 : ∀ w ∈ u_ws RX4 TX4 2, w ∈ wsX4_signAt := by decide +kernel
  have hw0 := hts (.fieldLink RX4 15 "HailNames$Pad" "length" "I") (by decide +kernel)
  have hw1 := hts (.fieldLink RX4 9 "HailNames$Pad" "signs" "[I") (by decide +kernel)
  have hl := lv_entry ([.ref (d0 0), .int p0]) (n := 2) (Nat.le_of_ble_eq_true rfl)
  rw [lg_entry_eq]
  generalize (lg_sl ([.ref (d0 0), .int p0]) ++ List.replicate (2 - (lg_sl ([.ref (d0 0), .int p0])).length) Slot.unset).toArray = ls at hl ⊢
  have hl : lv_has ls 2 [(0, .ref (d0 0)), (1, .int p0)] := hl
  have ht := (xX4_signAt_s S0 p0).symm.trans ht
  refine lv_iload_n hx hb dX4_signAt_0 rfl (lv_at hl 1 rfl) ?_
  refine lv_if_lt (tgt := 27) hx hb dX4_signAt_1 (by decide) (fun c1 => ?_) (fun c1 => ?_)
  · have ht := it_p c1 ht
    refine lv_iconst (v := 0) hx hb dX4_signAt_27 (by decide) ?_
    have ht := Option.some.inj ht
    exact W.iret (v := 0) hx hb hr (fun t e1 hW => ⟨_, rfl, ⟨ht, trivial⟩, e1⟩) (fun q h => absurd h List.not_mem_nil) dX4_signAt_28
  · have ht := it_n c1 ht
    refine lv_iload_n hx hb dX4_signAt_4 rfl (lv_at hl 1 rfl) ?_
    refine lv_aload_n hx hb dX4_signAt_5 rfl (lv_at hl 0 rfl) ?_
    refine va_get (D := D) (ci := 4) (v := .int (S0 1 0)) (C := RX4) (T := TX4) (N := 2) hx hb hts hi4 hown hE.1 hP 0 rfl rfl 1 (by decide) hw0 (fun _ h9 => h9) rfl dX4_signAt_6 ?_
    refine lv_icmp_ge (tgt := 27) hx hb dX4_signAt_9 (by decide) (fun c2 => ?_) (fun c2 => ?_)
    · have ht := it_p c2 ht
      refine lv_iconst (v := 0) hx hb dX4_signAt_27 (by decide) ?_
      have ht := Option.some.inj ht
      exact W.iret (v := 0) hx hb hr (fun t e1 hW => ⟨_, rfl, ⟨ht, trivial⟩, e1⟩) (fun q h => absurd h List.not_mem_nil) dX4_signAt_28
    · have ht := it_n c2 ht
      refine lv_iload_n hx hb dX4_signAt_12 rfl (lv_at hl 1 rfl) ?_
      refine lv_bipush (v := 60) hx hb dX4_signAt_13 (by decide) ?_
      refine lv_icmp_ge (tgt := 27) hx hb dX4_signAt_15 (by decide) (fun c3 => ?_) (fun c3 => ?_)
      · have ht := it_p c3 ht
        refine lv_iconst (v := 0) hx hb dX4_signAt_27 (by decide) ?_
        have ht := Option.some.inj ht
        exact W.iret (v := 0) hx hb hr (fun t e1 hW => ⟨_, rfl, ⟨ht, trivial⟩, e1⟩) (fun q h => absurd h List.not_mem_nil) dX4_signAt_28
      · have ht := it_n c3 ht
        refine lv_aload_n hx hb dX4_signAt_18 rfl (lv_at hl 0 rfl) ?_
        refine va_get (D := D) (ci := 4) (v := .ref (d0 1)) (C := RX4) (T := TX4) (N := 2) hx hb hts hi4 hown hE.1 hP 0 rfl rfl 0 (by decide) hw1 (fun _ h9 => h9) rfl dX4_signAt_19 ?_
        refine lv_iload_n hx hb dX4_signAt_22 rfl (lv_at hl 1 rfl) ?_
        obtain ⟨g4, ht⟩ := it_g ht
        refine va_iald hx hb hE.1 hP 1 0 rfl rfl (q_in g4) dX4_signAt_23 ?_
        refine lv_goto (tgt := 28) hx hb dX4_signAt_24 (by decide) ?_
        have ht := Option.some.inj ht
        exact W.iret (v := S0 0 p0.toNatClampNeg) hx hb hr (fun t e1 hW => ⟨_, rfl, ⟨ht, trivial⟩, e1⟩) (fun q h => absurd h List.not_mem_nil) dX4_signAt_28
abbrev rmX4_actAt : Room := { frames := 2, cells := 0, slots := 0, locals := 42 }
set_option maxHeartbeats 4000000 in
set_option maxRecDepth 100000 in
theorem kX4_actAt (l : Launch) (D : va_G) (cI cZ cO : ClassId) (d0 : Nat → Nat) (d1 : Nat → Nat) (sz : Nat) (S0 : St) (S1 : St) (p0 : Int32) (tg : St) (ht : xX4_actAt S0 p0 S1 = some tg) : Met l yX4_actAt wsX4_actAt rmX4_actAt (q_PM D cI cZ cO [.ref (d0 0), .int p0, .ref (d1 0)] sz (wg4 cI cZ d0 S0 ++ (wg0 cI cZ d1 S1))) (va_Qv (fun _ : Unit => True) (fun _ t => va_P D vwCl (wg4 cI cZ d0 S0 ++ (wg0 cI cZ d1 tg)) t.heap) (va_A (wg4 cI cZ d0 S0 ++ (wg0 cI cZ d1 S1)) sz)) 0 0 (va_A (wg4 cI cZ d0 S0 ++ (wg0 cI cZ d1 S1)) sz) := by
  refine Met.ofW (cc := cX4_actAt) (maxL := 6) (ret := none) (by decide) rfl ?_
  intro p e s m args below meth c s₁ B hml hv
  obtain ⟨rfl, hsz, hE, hP, hD0⟩ := hv
  have hx := B.exec
  have hb := B.bytes
  have hr := B.returns
  have hts := atoms_spec (ws := wsX4_actAt) B.pre
  have hown : s.vm.findClass RX4 = some m.cls := findClass_of_methodNamed B.named
  have hlocks := B.notSynchronized
  have hw0 := hts (.initialized RX8) (by decide +kernel)
  have hw1 := hts (.static yX8_isReader) (by decide +kernel)
  subst hsz
  have hD1 := hD0.self (sz := s.heap.size)
  generalize hAe : va_A (wg4 cI cZ d0 S0 ++ (wg0 cI cZ d1 S1)) s.heap.size = A at hD1 ⊢
  have hA : ∀ q : Nat, s.heap.size ≤ q → A q := fun q h => by rw [← hAe]; exact Or.inr h
  have hS : va_S A s.heap s.heap [] := va_S.rf
  have hD : ∀ (S0 : St) (S1 : St), va_D A (wg4 cI cZ d0 S0 ++ (wg0 cI cZ d1 S1)) := fun S0 S1 => q_D hD1 rfl
  have hl := lv_entry ([.ref (d0 0), .int p0, .ref (d1 0)]) (n := 6) (Nat.le_of_ble_eq_true rfl)
  rw [lg_entry_eq]
  generalize (lg_sl ([.ref (d0 0), .int p0, .ref (d1 0)]) ++ List.replicate (6 - (lg_sl ([.ref (d0 0), .int p0, .ref (d1 0)])).length) Slot.unset).toArray = ls at hl ⊢
  have hl : lv_has ls 6 [(0, .ref (d0 0)), (1, .int p0), (2, .ref (d1 0))] := hl
  have ht := (xX4_actAt_s S0 p0 S1).symm.trans ht
  obtain ⟨Q, hQ⟩ : ∃ Q, Q = MQ below (va_Qv (fun _ : Unit => True) (fun _ t => va_P D vwCl (wg4 cI cZ d0 S0 ++ (wg0 cI cZ d1 tg)) t.heap) A) ([.ref (d0 0), .int p0, .ref (d1 0)] : List Value).toArray s 0 0 A := ⟨_, rfl⟩
  rw [← hQ]
  have J92 : ∀ (z1 : Int32) (z2 : Int32) (z3 : Int32) (S1 : St) (H : Heap) (locs : List Loc) (_ : va_P D vwCl (wg4 cI cZ d0 S0 ++ (wg0 cI cZ d1 S1)) H) (_ : va_S A s.heap H locs) (ls : Array Slot) (_ : lv_has ls 6 []) (_ : xX4_actAt_h92 S0 p0 z1 z2 z3 S1 = some tg), W p l e (headSpec wsX4_actAt rmX4_actAt).room s m ([.ref (d0 0), .int p0, .ref (d1 0)] : List Value).toArray below meth c H locs 0 0 Q (F0 m 92 ls [.int z3, .int z2, .int z1, .ref (d1 0)]) := by
    intro z1 z2 z3 S1 H locs hP hS ls hl ht
    have ht := (xX4_actAt_h92_s S0 p0 z1 z2 z3 S1).symm.trans ht
    obtain ⟨q17, hq17, ht⟩ := it_b ht
    have hPc : va_P D vwCl (wg0 cI cZ d1 S1) H := hP.sub [2] rfl
    have hDc : va_D A (wg0 cI cZ d1 S1) := ((hD S0 S1)).sub [2] (by decide) rfl
    have hFc := va_free (wc := (wg0 cI cZ d1 S1)) (hD S0 S1) hS hA [2] rfl
    refine q_mv (va_runV (As := [.int z1, .int z2, .int z3]) (rest := []) ⟨hx, hb, hml, hown, hts⟩ (kX0_set l D cI cZ cO d1 H.size S1 z1 z2 z3 q17 hq17) (cwV 3 hts gX4_actAt_X0_set rfl rfl rfl (by decide +kernel) ⟨Nat.le_of_ble_eq_true rfl, Nat.le_of_ble_eq_true rfl⟩) (q_mV (As := [.int z1, .int z2, .int z3]) hE hPc hDc (q0 := 0) (ci := 0) rfl rfl) rfl rfl hl.1 rfl (lv_room (Nat.le_of_ble_eq_true rfl)) dX4_actAt_92 ⟨Nat.le_of_ble_eq_true rfl, Nat.le_of_ble_eq_true rfl⟩) hS hFc (fun H locs hP1 hk hS => ?_)
    have hP : va_P D vwCl (wg4 cI cZ d0 S0 ++ (wg0 cI cZ d1 q17)) H := (q_join (wr := (wg4 cI cZ d0 S0)) hP (hD S0 S1) [2] [0, 1] rfl rfl (by decide) (by decide) hk hFc hP1 hDc rfl).sub [0, 1, 2] rfl
    refine lv_goto (tgt := 136) hx hb dX4_actAt_95 (by decide) ?_
    subst hQ
    obtain rfl := Option.some.inj ht
    exact W.vret hx hb hr (fun t e1 hW => ⟨⟨(), rfl, trivial, q_at e1 hP⟩, hS.F e1⟩) hS.2.2 dX4_actAt_136
  refine lv_aload_n hx hb dX4_actAt_0 rfl (lv_at hl 0 rfl) ?_
  refine lv_iload_n hx hb dX4_actAt_1 rfl (lv_at hl 1 rfl) ?_
  obtain ⟨q1, hq1, ht⟩ := it_b ht
  have hPc : va_P D vwCl (wg4 cI cZ d0 S0) s.heap := hP.sub [0, 1] rfl
  refine q_ri (va_runV (As := [.int p0]) (rest := []) ⟨hx, hb, hml, hown, hts⟩ (kX4_signAt l D cI cZ cO d0 S0 p0 q1 hq1) (cwV 1 hts gX4_actAt_X4_signAt rfl rfl rfl (by decide +kernel) ⟨Nat.le_of_ble_eq_true rfl, Nat.le_of_ble_eq_true rfl⟩) (q_rV (As := [.int p0]) hE hPc (q0 := 0) (ci := 4) rfl rfl) rfl rfl hl.1 rfl (lv_room (Nat.le_of_ble_eq_true rfl)) dX4_actAt_2 ⟨Nat.le_of_ble_eq_true rfl, Nat.le_of_ble_eq_true rfl⟩) (fun b2 => ?_)
  refine lv_istore_n (lv' := [(3, .int q1), (0, .ref (d0 0)), (1, .int p0), (2, .ref (d1 0))]) hx hb dX4_actAt_5 rfl hl (by decide) rfl (fun ls hl => ?_)
  refine lv_aload_n hx hb dX4_actAt_6 rfl (lv_at hl 1 rfl) ?_
  refine lv_iload_n hx hb dX4_actAt_7 rfl (lv_at hl 2 rfl) ?_
  refine lv_iconst (v := 1) hx hb dX4_actAt_8 (by decide) ?_
  refine lv_iadd hx hb dX4_actAt_9 ?_
  obtain ⟨q3, hq3, ht⟩ := it_b ht
  have hPc : va_P D vwCl (wg4 cI cZ d0 S0) s.heap := hP.sub [0, 1] rfl
  refine q_ri (va_runV (As := [.int (p0 + 1)]) (rest := []) ⟨hx, hb, hml, hown, hts⟩ (kX4_signAt l D cI cZ cO d0 S0 (p0 + 1) q3 hq3) (cwV 1 hts gX4_actAt_X4_signAt rfl rfl rfl (by decide +kernel) ⟨Nat.le_of_ble_eq_true rfl, Nat.le_of_ble_eq_true rfl⟩) (q_rV (As := [.int (p0 + 1)]) hE hPc (q0 := 0) (ci := 4) rfl rfl) rfl rfl hl.1 rfl (lv_room (Nat.le_of_ble_eq_true rfl)) dX4_actAt_10 ⟨Nat.le_of_ble_eq_true rfl, Nat.le_of_ble_eq_true rfl⟩) (fun b4 => ?_)
  refine lv_istore (lv' := [(4, .int q3), (3, .int q1), (0, .ref (d0 0)), (1, .int p0), (2, .ref (d1 0))]) hx hb dX4_actAt_13 hl (by decide) rfl (fun ls hl => ?_)
  refine lv_aload_n hx hb dX4_actAt_15 rfl (lv_at hl 2 rfl) ?_
  refine lv_iload_n hx hb dX4_actAt_16 rfl (lv_at hl 3 rfl) ?_
  refine lv_iconst (v := 2) hx hb dX4_actAt_17 (by decide) ?_
  refine lv_iadd hx hb dX4_actAt_18 ?_
  obtain ⟨q5, hq5, ht⟩ := it_b ht
  have hPc : va_P D vwCl (wg4 cI cZ d0 S0) s.heap := hP.sub [0, 1] rfl
  refine q_ri (va_runV (As := [.int (p0 + 2)]) (rest := []) ⟨hx, hb, hml, hown, hts⟩ (kX4_signAt l D cI cZ cO d0 S0 (p0 + 2) q5 hq5) (cwV 1 hts gX4_actAt_X4_signAt rfl rfl rfl (by decide +kernel) ⟨Nat.le_of_ble_eq_true rfl, Nat.le_of_ble_eq_true rfl⟩) (q_rV (As := [.int (p0 + 2)]) hE hPc (q0 := 0) (ci := 4) rfl rfl) rfl rfl hl.1 rfl (lv_room (Nat.le_of_ble_eq_true rfl)) dX4_actAt_19 ⟨Nat.le_of_ble_eq_true rfl, Nat.le_of_ble_eq_true rfl⟩) (fun b6 => ?_)
  refine lv_istore (lv' := [(5, .int q5), (4, .int q3), (3, .int q1), (0, .ref (d0 0)), (1, .int p0), (2, .ref (d1 0))]) hx hb dX4_actAt_22 hl (by decide) rfl (fun ls hl => ?_)
  refine lv_iload_n hx hb dX4_actAt_24 rfl (lv_at hl 2 rfl) ?_
  refine lv_bipush (v := 46) hx hb dX4_actAt_25 (by decide) ?_
  refine lv_icmp_ne (tgt := 40) hx hb dX4_actAt_27 (by decide) (fun c7 => ?_) (fun c7 => ?_)
  · have ht := it_n c7 ht
    refine lv_iload_n hx hb dX4_actAt_40 rfl (lv_at hl 2 rfl) ?_
    refine lv_bipush (v := 48) hx hb dX4_actAt_41 (by decide) ?_
    refine lv_isub hx hb dX4_actAt_43 ?_
    refine q_ri (va_runSN (As := [.int (q1 - 48)]) (rest := []) ⟨hx, hb, hml, hown, hts⟩ (kX8_isReader l D cI cZ cO (q1 - 48)) ⟨va_cnB 1 hts gX4_actAt_X8_isReader_n36 rfl rfl rfl hE.2.2.2.2.2.2.2.2.2.2.2.1 hw0 (by decide +kernel) ⟨Nat.le_of_ble_eq_true rfl, Nat.le_of_ble_eq_true rfl⟩, hw1, trivial⟩ (q_rS hE q_nil) rfl rfl hl.1 rfl (lv_room (Nat.le_of_ble_eq_true rfl)) dX4_actAt_44 ⟨Nat.le_of_ble_eq_true rfl, Nat.le_of_ble_eq_true rfl⟩) (fun b8 => ?_)
    refine lv_if_eq (tgt := 98) hx hb dX4_actAt_47 (by decide) (fun c9 => ?_) (fun c9 => ?_)
    · have ht := it_p c9 ht
      refine lv_iload hx hb dX4_actAt_98 (lv_at hl 1 rfl) ?_
      refine lv_bipush (v := 62) hx hb dX4_actAt_100 (by decide) ?_
      refine lv_icmp_ne (tgt := 122) hx hb dX4_actAt_102 (by decide) (fun c10 => ?_) (fun c10 => ?_)
      · have ht := it_n c10 ht
        refine lv_aload_n hx hb dX4_actAt_122 rfl (lv_at hl 5 rfl) ?_
        refine lv_iconst (v := 1) hx hb dX4_actAt_123 (by decide) ?_
        refine lv_iload_n hx hb dX4_actAt_124 rfl (lv_at hl 2 rfl) ?_
        refine lv_bipush (v := 65) hx hb dX4_actAt_125 (by decide) ?_
        refine lv_isub hx hb dX4_actAt_127 ?_
        refine lv_iload hx hb dX4_actAt_128 (lv_at hl 0 rfl) ?_
        refine lv_bipush (v := 97) hx hb dX4_actAt_130 (by decide) ?_
        refine lv_isub hx hb dX4_actAt_132 ?_
        obtain ⟨q11, hq11, ht⟩ := it_b ht
        have hPc : va_P D vwCl (wg0 cI cZ d1 S1) s.heap := hP.sub [2] rfl
        have hDc : va_D A (wg0 cI cZ d1 S1) := ((hD S0 S1)).sub [2] (by decide) rfl
        have hFc := va_free (wc := (wg0 cI cZ d1 S1)) (hD S0 S1) hS hA [2] rfl
        refine q_mv (va_runV (As := [.int 1, .int (q1 - 65), .int (q5 - 97)]) (rest := []) ⟨hx, hb, hml, hown, hts⟩ (kX0_set l D cI cZ cO d1 s.heap.size S1 1 (q1 - 65) (q5 - 97) q11 hq11) (cwV 3 hts gX4_actAt_X0_set rfl rfl rfl (by decide +kernel) ⟨Nat.le_of_ble_eq_true rfl, Nat.le_of_ble_eq_true rfl⟩) (q_mV (As := [.int 1, .int (q1 - 65), .int (q5 - 97)]) hE hPc hDc (q0 := 0) (ci := 0) rfl rfl) rfl rfl hl.1 rfl (lv_room (Nat.le_of_ble_eq_true rfl)) dX4_actAt_133 ⟨Nat.le_of_ble_eq_true rfl, Nat.le_of_ble_eq_true rfl⟩) hS hFc (fun H locs hP1 hk hS => ?_)
        have hP : va_P D vwCl (wg4 cI cZ d0 S0 ++ (wg0 cI cZ d1 q11)) H := (q_join (wr := (wg4 cI cZ d0 S0)) hP (hD S0 S1) [2] [0, 1] rfl rfl (by decide) (by decide) hk hFc hP1 hDc rfl).sub [0, 1, 2] rfl
        subst hQ
        obtain rfl := Option.some.inj ht
        exact W.vret hx hb hr (fun t e1 hW => ⟨⟨(), rfl, trivial, q_at e1 hP⟩, hS.F e1⟩) hS.2.2 dX4_actAt_136
      · have ht := it_p c10 ht
        refine lv_aload_n hx hb dX4_actAt_105 rfl (lv_at hl 5 rfl) ?_
        refine lv_iconst (v := 0) hx hb dX4_actAt_106 (by decide) ?_
        refine lv_iload_n hx hb dX4_actAt_107 rfl (lv_at hl 2 rfl) ?_
        refine lv_bipush (v := 65) hx hb dX4_actAt_108 (by decide) ?_
        refine lv_isub hx hb dX4_actAt_110 ?_
        refine lv_iload hx hb dX4_actAt_111 (lv_at hl 0 rfl) ?_
        refine lv_bipush (v := 65) hx hb dX4_actAt_113 (by decide) ?_
        refine lv_isub hx hb dX4_actAt_115 ?_
        obtain ⟨q12, hq12, ht⟩ := it_b ht
        have hPc : va_P D vwCl (wg0 cI cZ d1 S1) s.heap := hP.sub [2] rfl
        have hDc : va_D A (wg0 cI cZ d1 S1) := ((hD S0 S1)).sub [2] (by decide) rfl
        have hFc := va_free (wc := (wg0 cI cZ d1 S1)) (hD S0 S1) hS hA [2] rfl
        refine q_mv (va_runV (As := [.int 0, .int (q1 - 65), .int (q5 - 65)]) (rest := []) ⟨hx, hb, hml, hown, hts⟩ (kX0_set l D cI cZ cO d1 s.heap.size S1 0 (q1 - 65) (q5 - 65) q12 hq12) (cwV 3 hts gX4_actAt_X0_set rfl rfl rfl (by decide +kernel) ⟨Nat.le_of_ble_eq_true rfl, Nat.le_of_ble_eq_true rfl⟩) (q_mV (As := [.int 0, .int (q1 - 65), .int (q5 - 65)]) hE hPc hDc (q0 := 0) (ci := 0) rfl rfl) rfl rfl hl.1 rfl (lv_room (Nat.le_of_ble_eq_true rfl)) dX4_actAt_116 ⟨Nat.le_of_ble_eq_true rfl, Nat.le_of_ble_eq_true rfl⟩) hS hFc (fun H locs hP1 hk hS => ?_)
        have hP : va_P D vwCl (wg4 cI cZ d0 S0 ++ (wg0 cI cZ d1 q12)) H := (q_join (wr := (wg4 cI cZ d0 S0)) hP (hD S0 S1) [2] [0, 1] rfl rfl (by decide) (by decide) hk hFc hP1 hDc rfl).sub [0, 1, 2] rfl
        refine lv_goto (tgt := 136) hx hb dX4_actAt_119 (by decide) ?_
        subst hQ
        obtain rfl := Option.some.inj ht
        exact W.vret hx hb hr (fun t e1 hW => ⟨⟨(), rfl, trivial, q_at e1 hP⟩, hS.F e1⟩) hS.2.2 dX4_actAt_136
    · have ht := it_n c9 ht
      refine lv_iload hx hb dX4_actAt_50 (lv_at hl 1 rfl) ?_
      refine lv_bipush (v := 63) hx hb dX4_actAt_52 (by decide) ?_
      refine lv_icmp_ne (tgt := 74) hx hb dX4_actAt_54 (by decide) (fun c13 => ?_) (fun c13 => ?_)
      · have ht := it_n c13 ht
        refine lv_aload_n hx hb dX4_actAt_74 rfl (lv_at hl 5 rfl) ?_
        refine lv_iconst (v := 2) hx hb dX4_actAt_75 (by decide) ?_
        refine lv_iload_n hx hb dX4_actAt_76 rfl (lv_at hl 2 rfl) ?_
        refine lv_bipush (v := 48) hx hb dX4_actAt_77 (by decide) ?_
        refine lv_isub hx hb dX4_actAt_79 ?_
        refine lv_iload hx hb dX4_actAt_80 (lv_at hl 1 rfl) ?_
        refine lv_bipush (v := 62) hx hb dX4_actAt_82 (by decide) ?_
        refine lv_icmp_ne (tgt := 91) hx hb dX4_actAt_84 (by decide) (fun c14 => ?_) (fun c14 => ?_)
        · have ht := it_n c14 ht
          refine lv_iconst (v := (-1)) hx hb dX4_actAt_91 (by decide) ?_
          exact J92 2 (q1 - 48) (-1) S1 _ _ hP hS ls (lv_sub hl [] rfl) ht
        · have ht := it_p c14 ht
          refine lv_iconst (v := 1) hx hb dX4_actAt_87 (by decide) ?_
          refine lv_goto (tgt := 92) hx hb dX4_actAt_88 (by decide) ?_
          exact J92 2 (q1 - 48) 1 S1 _ _ hP hS ls (lv_sub hl [] rfl) ht
      · have ht := it_p c13 ht
        refine lv_aload_n hx hb dX4_actAt_57 rfl (lv_at hl 5 rfl) ?_
        refine lv_iconst (v := 3) hx hb dX4_actAt_58 (by decide) ?_
        refine lv_iload_n hx hb dX4_actAt_59 rfl (lv_at hl 2 rfl) ?_
        refine lv_bipush (v := 48) hx hb dX4_actAt_60 (by decide) ?_
        refine lv_isub hx hb dX4_actAt_62 ?_
        refine lv_iload hx hb dX4_actAt_63 (lv_at hl 0 rfl) ?_
        refine lv_bipush (v := 65) hx hb dX4_actAt_65 (by decide) ?_
        refine lv_isub hx hb dX4_actAt_67 ?_
        obtain ⟨q15, hq15, ht⟩ := it_b ht
        have hPc : va_P D vwCl (wg0 cI cZ d1 S1) s.heap := hP.sub [2] rfl
        have hDc : va_D A (wg0 cI cZ d1 S1) := ((hD S0 S1)).sub [2] (by decide) rfl
        have hFc := va_free (wc := (wg0 cI cZ d1 S1)) (hD S0 S1) hS hA [2] rfl
        refine q_mv (va_runV (As := [.int 3, .int (q1 - 48), .int (q5 - 65)]) (rest := []) ⟨hx, hb, hml, hown, hts⟩ (kX0_set l D cI cZ cO d1 s.heap.size S1 3 (q1 - 48) (q5 - 65) q15 hq15) (cwV 3 hts gX4_actAt_X0_set rfl rfl rfl (by decide +kernel) ⟨Nat.le_of_ble_eq_true rfl, Nat.le_of_ble_eq_true rfl⟩) (q_mV (As := [.int 3, .int (q1 - 48), .int (q5 - 65)]) hE hPc hDc (q0 := 0) (ci := 0) rfl rfl) rfl rfl hl.1 rfl (lv_room (Nat.le_of_ble_eq_true rfl)) dX4_actAt_68 ⟨Nat.le_of_ble_eq_true rfl, Nat.le_of_ble_eq_true rfl⟩) hS hFc (fun H locs hP1 hk hS => ?_)
        have hP : va_P D vwCl (wg4 cI cZ d0 S0 ++ (wg0 cI cZ d1 q15)) H := (q_join (wr := (wg4 cI cZ d0 S0)) hP (hD S0 S1) [2] [0, 1] rfl rfl (by decide) (by decide) hk hFc hP1 hDc rfl).sub [0, 1, 2] rfl
        refine lv_goto (tgt := 136) hx hb dX4_actAt_71 (by decide) ?_
        subst hQ
        obtain rfl := Option.some.inj ht
        exact W.vret hx hb hr (fun t e1 hW => ⟨⟨(), rfl, trivial, q_at e1 hP⟩, hS.F e1⟩) hS.2.2 dX4_actAt_136
  · have ht := it_p c7 ht
    refine lv_aload_n hx hb dX4_actAt_30 rfl (lv_at hl 5 rfl) ?_
    refine lv_iconst (v := 4) hx hb dX4_actAt_31 (by decide) ?_
    refine lv_iconst (v := 0) hx hb dX4_actAt_32 (by decide) ?_
    refine lv_iconst (v := 0) hx hb dX4_actAt_33 (by decide) ?_
    obtain ⟨q16, hq16, ht⟩ := it_b ht
    have hPc : va_P D vwCl (wg0 cI cZ d1 S1) s.heap := hP.sub [2] rfl
    have hDc : va_D A (wg0 cI cZ d1 S1) := ((hD S0 S1)).sub [2] (by decide) rfl
    have hFc := va_free (wc := (wg0 cI cZ d1 S1)) (hD S0 S1) hS hA [2] rfl
    refine q_mv (va_runV (As := [.int 4, .int 0, .int 0]) (rest := []) ⟨hx, hb, hml, hown, hts⟩ (kX0_set l D cI cZ cO d1 s.heap.size S1 4 0 0 q16 hq16) (cwV 3 hts gX4_actAt_X0_set rfl rfl rfl (by decide +kernel) ⟨Nat.le_of_ble_eq_true rfl, Nat.le_of_ble_eq_true rfl⟩) (q_mV (As := [.int 4, .int 0, .int 0]) hE hPc hDc (q0 := 0) (ci := 0) rfl rfl) rfl rfl hl.1 rfl (lv_room (Nat.le_of_ble_eq_true rfl)) dX4_actAt_34 ⟨Nat.le_of_ble_eq_true rfl, Nat.le_of_ble_eq_true rfl⟩) hS hFc (fun H locs hP1 hk hS => ?_)
    have hP : va_P D vwCl (wg4 cI cZ d0 S0 ++ (wg0 cI cZ d1 q16)) H := (q_join (wr := (wg4 cI cZ d0 S0)) hP (hD S0 S1) [2] [0, 1] rfl rfl (by decide) (by decide) hk hFc hP1 hDc rfl).sub [0, 1, 2] rfl
    refine lv_goto (tgt := 136) hx hb dX4_actAt_37 (by decide) ?_
    subst hQ
    obtain rfl := Option.some.inj ht
    exact W.vret hx hb hr (fun t e1 hW => ⟨⟨(), rfl, trivial, q_at e1 hP⟩, hS.F e1⟩) hS.2.2 dX4_actAt_136
