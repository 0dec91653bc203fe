def sX0 : St := (q_su (fun _ _ => 0) 0 0 4)
abbrev rmX0_init : Room := { frames := 1, cells := 0, slots := 0, locals := 12 }
set_option maxHeartbeats 8000000 in
set_option maxRecDepth 100000 in
theorem kX0_init (l : Launch) (D : va_G) (cI cZ cO : ClassId) (h0 sz : Nat) : Met l yX0_init wsX0_init rmX0_init (q_PM D cI cZ cO [.ref h0] sz ([(h0, .inr (0, [.int 0, .int 0, .int 0]))] : va_W)) (va_Qv (fun _ : Unit => True) (fun _ t => ∃ d : Nat → Nat, d 0 = h0 ∧ va_P D vwCl (wg0 cI cZ d sX0) t.heap ∧ va_D (va_A ([(h0, .inr (0, [.int 0, .int 0, .int 0]))] : va_W) sz) (wg0 cI cZ d sX0)) (va_A ([(h0, .inr (0, [.int 0, .int 0, .int 0]))] : va_W) sz)) 0 0 (va_A ([(h0, .inr (0, [.int 0, .int 0, .int 0]))] : va_W) sz) := by
  refine Met.ofW (cc := cX0_init) (maxL := 1) (ret := none) (by decide) rfl ?_
  intro p e s m args below meth c s₁ B hml hv
  obtain ⟨rfl, hsz, hE, hP, hD0⟩ := hv
  have hx := B.exec
  have hb := B.bytes
  have hr := B.returns
  have hts := atoms_spec (ws := wsX0_init) B.pre
  have hown : s.vm.findClass RX0 = some m.cls := findClass_of_methodNamed B.named
  have hlocks := B.notSynchronized
  have hin : meth.name = "<init>" := (name_of_methodNamed B.named B.method).1
  have hi0 : ∀ w ∈ u_ws RX0 TX0 3, w ∈ wsX0_init := by decide +kernel
  have hw0 := hts (.methodLink RX0 3 objectInit) (by decide +kernel)
  have hw1 := hts (.instanceMethod objectInit) (by decide +kernel)
  have hw2 := hts (.code objectInit ⟨#[0xb1]⟩ 1 none) (by decide +kernel)
  have hw3 := hts (.fieldLink RX0 9 "HailNames$Act" "kind" "I") (by decide +kernel)
  have hw4 := hts (.fieldLink RX0 15 "HailNames$Act" "who" "I") (by decide +kernel)
  have hw5 := hts (.fieldLink RX0 18 "HailNames$Act" "whom" "I") (by decide +kernel)
  subst hsz
  have hD := hD0.self (sz := s.heap.size)
  generalize hAe : va_A ([(h0, .inr (0, [.int 0, .int 0, .int 0]))] : va_W) s.heap.size = A at hD
  have hA : ∀ q : Nat, s.heap.size ≤ q → A q := fun q h => by rw [← hAe]; exact Or.inr h
  have hS : va_S A s.heap s.heap [] := va_S.rf
  have hl := lv_entry ([.ref h0]) (n := 1) (Nat.le_of_ble_eq_true rfl)
  rw [lg_entry_eq]
  generalize (lg_sl ([.ref h0]) ++ List.replicate (1 - (lg_sl ([.ref h0])).length) Slot.unset).toArray = ls at hl ⊢
  have hl : lv_has ls 1 [(0, .ref h0)] := hl
  obtain ⟨H, hH⟩ : ∃ H, H = s.heap := ⟨_, rfl⟩
  rw [← hH] at hP
  have hS : va_S A s.heap H [] := by rw [hH]; exact hS
  rw [show W p l e (headSpec wsX0_init rmX0_init).room s m ([.ref h0] : List Value).toArray below meth c s.heap = W p l e (headSpec wsX0_init rmX0_init).room s m ([.ref h0] : List Value).toArray below meth c H by rw [hH]]
  refine lv_aload_n hx hb dX0_init_0 rfl (lv_at hl 0 rfl) ?_
  refine W.objInit hx hb hown hw0 hw1 hw2 rfl (by rw [hml]; exact hl.1) rfl dX0_init_1 (Nat.le_of_ble_eq_true rfl) (Nat.le_of_ble_eq_true rfl) ?_
  refine W.eq (g2 := F0 m 4 ls []) rfl ?_
  refine lv_aload_n hx hb dX0_init_4 rfl (lv_at hl 0 rfl) ?_
  refine lv_iconst (v := 4) hx hb dX0_init_5 (by decide) ?_
  refine va_put (D := D) (ci := 0) (v := .int 4) (ty := .int) (C := RX0) (T := TX0) (N := 3) hx hb hts hi0 tyX0 tyX0_ok nmX0 hown hE.1 hP hD hS 0 rfl rfl 0 (by decide) hw3 (fun _ h9 => h9) rfl (by decide +kernel) rfl rfl (Nat.le_of_ble_eq_true rfl) dX0_init_6 (fun H locs hP1 hD1 hS1 => ?_)
  replace hP : va_P D vwCl ([(h0, .inr (0, [.int 4, .int 0, .int 0]))]) H := hP1
  replace hD : va_D A ([(h0, .inr (0, [.int 4, .int 0, .int 0]))]) := hD1
  replace hS := hS1
  clear hP1 hD1 hS1
  refine lv_aload_n hx hb dX0_init_9 rfl (lv_at hl 0 rfl) ?_
  refine lv_iconst (v := 0) hx hb dX0_init_10 (by decide) ?_
  refine va_put (D := D) (ci := 0) (v := .int 0) (ty := .int) (C := RX0) (T := TX0) (N := 3) hx hb hts hi0 tyX0 tyX0_ok nmX0 hown hE.1 hP hD hS 0 rfl rfl 1 (by decide) hw4 (fun _ h9 => h9) rfl (by decide +kernel) rfl rfl (Nat.le_of_ble_eq_true rfl) dX0_init_11 (fun H locs hP1 hD1 hS1 => ?_)
  replace hP : va_P D vwCl ([(h0, .inr (0, [.int 4, .int 0, .int 0]))]) H := hP1
  replace hD : va_D A ([(h0, .inr (0, [.int 4, .int 0, .int 0]))]) := hD1
  replace hS := hS1
  clear hP1 hD1 hS1
  refine lv_aload_n hx hb dX0_init_14 rfl (lv_at hl 0 rfl) ?_
  refine lv_iconst (v := 0) hx hb dX0_init_15 (by decide) ?_
  refine va_put (D := D) (ci := 0) (v := .int 0) (ty := .int) (C := RX0) (T := TX0) (N := 3) hx hb hts hi0 tyX0 tyX0_ok nmX0 hown hE.1 hP hD hS 0 rfl rfl 2 (by decide) hw5 (fun _ h9 => h9) rfl (by decide +kernel) rfl rfl (Nat.le_of_ble_eq_true rfl) dX0_init_16 (fun H locs hP1 hD1 hS1 => ?_)
  replace hP : va_P D vwCl ([(h0, .inr (0, [.int 4, .int 0, .int 0]))]) H := hP1
  replace hD : va_D A ([(h0, .inr (0, [.int 4, .int 0, .int 0]))]) := hD1
  replace hS := hS1
  clear hP1 hD1 hS1
  have hP9 : va_P D vwCl (wg0 cI cZ (fun j : Nat => ([h0] : List Nat).getD j 0) sX0) H := hP
  have hD9 : va_D A (wg0 cI cZ (fun j : Nat => ([h0] : List Nat).getD j 0) sX0) := hD
  exact W.vret hx hb hr (fun t e1 hW => ⟨⟨(), rfl, trivial, (fun j : Nat => ([h0] : List Nat).getD j 0), rfl, by rw [e1]; exact hP9, hAe ▸ hD9⟩, hAe ▸ hS.F e1⟩) (hAe ▸ hS.2.2) dX0_init_19
def sX4 : St := (fun _ _ => 0)
abbrev rmX4_init : Room := { frames := 1, cells := 1, slots := 60, locals := 12 }
set_option maxHeartbeats 8000000 in
set_option maxRecDepth 100000 in
theorem kX4_init (l : Launch) (D : va_G) (cI cZ cO : ClassId) (h0 sz : Nat) : Met l yX4_init wsX4_init rmX4_init (q_PM D cI cZ cO [.ref h0] sz ([(h0, .inr (4, [.null, .int 0]))] : va_W)) (va_Qv (fun _ : Unit => True) (fun _ t => ∃ d : Nat → Nat, d 0 = h0 ∧ va_P D vwCl (wg4 cI cZ d sX4) t.heap ∧ va_D (va_A ([(h0, .inr (4, [.null, .int 0]))] : va_W) sz) (wg4 cI cZ d sX4)) (va_A ([(h0, .inr (4, [.null, .int 0]))] : va_W) sz)) 1 60 (va_A ([(h0, .inr (4, [.null, .int 0]))] : va_W) sz) := by
  refine Met.ofW (cc := cX4_init) (maxL := 1) (ret := none) (by decide) rfl ?_
  intro p e s m args below meth c s₁ B hml hv
  obtain ⟨rfl, hsz, hE, hP, hD0⟩ := hv
  have hx := B.exec
  have hb := B.bytes
  have hr := B.returns
  have hts := atoms_spec (ws := wsX4_init) B.pre
  have hown : s.vm.findClass RX4 = some m.cls := findClass_of_methodNamed B.named
  have hlocks := B.notSynchronized
  have hin : meth.name = "<init>" := (name_of_methodNamed B.named B.method).1
  have hi4 : ∀ w ∈ u_ws RX4 TX4 2, w ∈ wsX4_init := by decide +kernel
  have hw0 := hts (.methodLink RX4 3 objectInit) (by decide +kernel)
  have hw1 := hts (.instanceMethod objectInit) (by decide +kernel)
  have hw2 := hts (.code objectInit ⟨#[0xb1]⟩ 1 none) (by decide +kernel)
  have hw3 := hts (.arrayClass .int) (by decide +kernel)
  have hw4 := hts (.fieldLink RX4 9 "HailNames$Pad" "signs" "[I") (by decide +kernel)
  have hw5 := hts (.fieldLink RX4 15 "HailNames$Pad" "length" "I") (by decide +kernel)
  subst hsz
  have hD := hD0.self (sz := s.heap.size)
  generalize hAe : va_A ([(h0, .inr (4, [.null, .int 0]))] : va_W) s.heap.size = A at hD
  have hA : ∀ q : Nat, s.heap.size ≤ q → A q := fun q h => by rw [← hAe]; exact Or.inr h
  have hS : va_S A s.heap s.heap [] := va_S.rf
  have hl := lv_entry ([.ref h0]) (n := 1) (Nat.le_of_ble_eq_true rfl)
  rw [lg_entry_eq]
  generalize (lg_sl ([.ref h0]) ++ List.replicate (1 - (lg_sl ([.ref h0])).length) Slot.unset).toArray = ls at hl ⊢
  have hl : lv_has ls 1 [(0, .ref h0)] := hl
  obtain ⟨H, hH⟩ : ∃ H, H = s.heap := ⟨_, rfl⟩
  rw [← hH] at hP
  have hS : va_S A s.heap H [] := by rw [hH]; exact hS
  rw [show W p l e (headSpec wsX4_init rmX4_init).room s m ([.ref h0] : List Value).toArray below meth c s.heap = W p l e (headSpec wsX4_init rmX4_init).room s m ([.ref h0] : List Value).toArray below meth c H by rw [hH]]
  refine lv_aload_n hx hb dX4_init_0 rfl (lv_at hl 0 rfl) ?_
  refine W.objInit hx hb hown hw0 hw1 hw2 rfl (by rw [hml]; exact hl.1) rfl dX4_init_1 (Nat.le_of_ble_eq_true rfl) (Nat.le_of_ble_eq_true rfl) ?_
  refine W.eq (g2 := F0 m 4 ls []) rfl ?_
  refine lv_aload_n hx hb dX4_init_4 rfl (lv_at hl 0 rfl) ?_
  refine lv_bipush (v := 60) hx hb dX4_init_5 (by decide) ?_
  refine q_newi (N := 60) hx hb hw3 hE hP hD hS hA (by decide) (by decide +kernel) (by decide +kernel) (Nat.le_of_ble_eq_true rfl) (Nat.le_of_ble_eq_true rfl) dX4_init_7 (fun q1 H hP1 hD1 hS1 => ?_)
  replace hP : va_P D vwCl ([(h0, .inr (4, [.null, .int 0])), (q1, .inl (cI, 60, .inl (fun _ => 0)))]) H := hP1
  replace hD : va_D A ([(h0, .inr (4, [.null, .int 0])), (q1, .inl (cI, 60, .inl (fun _ => 0)))]) := hD1
  replace hS := hS1
  clear hP1 hD1 hS1
  refine W.widen (k := 1) (n := 60) (Nat.le_of_ble_eq_true rfl) (Nat.le_of_ble_eq_true rfl) ?_
  refine va_putF (D := D) (ci := 4) (v := .ref q1) (ty := .array .int) (C := RX4) (T := TX4) (N := 2) hx hb hts hi4 tyX4 tyX4_ok nmX4 hown hE.1 hP hD hS 0 rfl rfl 0 (by decide) hw4 (fun _ h9 => h9) rfl hin rfl (by decide +kernel) rfl rfl (Nat.le_of_ble_eq_true rfl) dX4_init_9 (fun H locs hP1 hD1 hS1 => ?_)
  replace hP : va_P D vwCl ([(h0, .inr (4, [.ref q1, .int 0])), (q1, .inl (cI, 60, .inl (fun _ => 0)))]) H := hP1
  replace hD : va_D A ([(h0, .inr (4, [.ref q1, .int 0])), (q1, .inl (cI, 60, .inl (fun _ => 0)))]) := hD1
  replace hS := hS1
  clear hP1 hD1 hS1
  refine lv_aload_n hx hb dX4_init_12 rfl (lv_at hl 0 rfl) ?_
  refine lv_iconst (v := 0) hx hb dX4_init_13 (by decide) ?_
  refine va_put (D := D) (ci := 4) (v := .int 0) (ty := .int) (C := RX4) (T := TX4) (N := 2) hx hb hts hi4 tyX4 tyX4_ok nmX4 hown hE.1 hP hD hS 0 rfl rfl 1 (by decide) hw5 (fun _ h9 => h9) rfl (by decide +kernel) rfl rfl (Nat.le_of_ble_eq_true rfl) dX4_init_14 (fun H locs hP1 hD1 hS1 => ?_)
  replace hP : va_P D vwCl ([(h0, .inr (4, [.ref q1, .int 0])), (q1, .inl (cI, 60, .inl (fun _ => 0)))]) H := hP1
  replace hD : va_D A ([(h0, .inr (4, [.ref q1, .int 0])), (q1, .inl (cI, 60, .inl (fun _ => 0)))]) := hD1
  replace hS := hS1
  clear hP1 hD1 hS1
  have hP9 : va_P D vwCl (wg4 cI cZ (fun j : Nat => ([h0, q1] : List Nat).getD j 0) sX4) H := hP
  have hD9 : va_D A (wg4 cI cZ (fun j : Nat => ([h0, q1] : List Nat).getD j 0) sX4) := hD
  exact W.vret hx hb hr (fun t e1 hW => ⟨⟨(), rfl, trivial, (fun j : Nat => ([h0, q1] : List Nat).getD j 0), rfl, by rw [e1]; exact hP9, hAe ▸ hD9⟩, hAe ▸ hS.F e1⟩) (hAe ▸ hS.2.2) dX4_init_17
def sX7 : St := (fun _ _ => 0)
abbrev rmX7_init : Room := { frames := 1, cells := 3, slots := 24, locals := 12 }
set_option maxHeartbeats 8000000 in
set_option maxRecDepth 100000 in
theorem kX7_init (l : Launch) (D : va_G) (cI cZ cO : ClassId) (h0 sz : Nat) : Met l yX7_init wsX7_init rmX7_init (q_PM D cI cZ cO [.ref h0] sz ([(h0, .inr (7, [.null, .null, .null, .int 0]))] : va_W)) (va_Qv (fun _ : Unit => True) (fun _ t => ∃ d : Nat → Nat, d 0 = h0 ∧ va_P D vwCl (wg7 cI cZ d sX7) t.heap ∧ va_D (va_A ([(h0, .inr (7, [.null, .null, .null, .int 0]))] : va_W) sz) (wg7 cI cZ d sX7)) (va_A ([(h0, .inr (7, [.null, .null, .null, .int 0]))] : va_W) sz)) 3 24 (va_A ([(h0, .inr (7, [.null, .null, .null, .int 0]))] : va_W) sz) := by
  refine Met.ofW (cc := cX7_init) (maxL := 1) (ret := none) (by decide) rfl ?_
  intro p e s m args below meth c s₁ B hml hv
  obtain ⟨rfl, hsz, hE, hP, hD0⟩ := hv
  have hx := B.exec
  have hb := B.bytes
  have hr := B.returns
  have hts := atoms_spec (ws := wsX7_init) B.pre
  have hown : s.vm.findClass RX7 = some m.cls := findClass_of_methodNamed B.named
  have hlocks := B.notSynchronized
  have hin : meth.name = "<init>" := (name_of_methodNamed B.named B.method).1
  have hi7 : ∀ w ∈ u_ws RX7 TX7 4, w ∈ wsX7_init := by decide +kernel
  have hw0 := hts (.methodLink RX7 3 objectInit) (by decide +kernel)
  have hw1 := hts (.instanceMethod objectInit) (by decide +kernel)
  have hw2 := hts (.code objectInit ⟨#[0xb1]⟩ 1 none) (by decide +kernel)
  have hw3 := hts (.arrayClass .int) (by decide +kernel)
  have hw4 := hts (.fieldLink RX7 9 "HailNames$Sights" "sets" "[I") (by decide +kernel)
  have hw5 := hts (.fieldLink RX7 15 "HailNames$Sights" "aims" "[I") (by decide +kernel)
  have hw6 := hts (.fieldLink RX7 18 "HailNames$Sights" "counts" "[I") (by decide +kernel)
  have hw7 := hts (.fieldLink RX7 21 "HailNames$Sights" "number" "I") (by decide +kernel)
  subst hsz
  have hD := hD0.self (sz := s.heap.size)
  generalize hAe : va_A ([(h0, .inr (7, [.null, .null, .null, .int 0]))] : va_W) s.heap.size = A at hD
  have hA : ∀ q : Nat, s.heap.size ≤ q → A q := fun q h => by rw [← hAe]; exact Or.inr h
  have hS : va_S A s.heap s.heap [] := va_S.rf
  have hl := lv_entry ([.ref h0]) (n := 1) (Nat.le_of_ble_eq_true rfl)
  rw [lg_entry_eq]
  generalize (lg_sl ([.ref h0]) ++ List.replicate (1 - (lg_sl ([.ref h0])).length) Slot.unset).toArray = ls at hl ⊢
  have hl : lv_has ls 1 [(0, .ref h0)] := hl
  obtain ⟨H, hH⟩ : ∃ H, H = s.heap := ⟨_, rfl⟩
  rw [← hH] at hP
  have hS : va_S A s.heap H [] := by rw [hH]; exact hS
  rw [show W p l e (headSpec wsX7_init rmX7_init).room s m ([.ref h0] : List Value).toArray below meth c s.heap = W p l e (headSpec wsX7_init rmX7_init).room s m ([.ref h0] : List Value).toArray below meth c H by rw [hH]]
  refine lv_aload_n hx hb dX7_init_0 rfl (lv_at hl 0 rfl) ?_
  refine W.objInit hx hb hown hw0 hw1 hw2 rfl (by rw [hml]; exact hl.1) rfl dX7_init_1 (Nat.le_of_ble_eq_true rfl) (Nat.le_of_ble_eq_true rfl) ?_
  refine W.eq (g2 := F0 m 4 ls []) rfl ?_
  refine lv_aload_n hx hb dX7_init_4 rfl (lv_at hl 0 rfl) ?_
  refine lv_bipush (v := 8) hx hb dX7_init_5 (by decide) ?_
  refine q_newi (N := 8) hx hb hw3 hE hP hD hS hA (by decide) (by decide +kernel) (by decide +kernel) (Nat.le_of_ble_eq_true rfl) (Nat.le_of_ble_eq_true rfl) dX7_init_7 (fun q1 H hP1 hD1 hS1 => ?_)
  replace hP : va_P D vwCl ([(h0, .inr (7, [.null, .null, .null, .int 0])), (q1, .inl (cI, 8, .inl (fun _ => 0)))]) H := hP1
  replace hD : va_D A ([(h0, .inr (7, [.null, .null, .null, .int 0])), (q1, .inl (cI, 8, .inl (fun _ => 0)))]) := hD1
  replace hS := hS1
  clear hP1 hD1 hS1
  refine W.widen (k := 1) (n := 8) (Nat.le_of_ble_eq_true rfl) (Nat.le_of_ble_eq_true rfl) ?_
  refine va_putF (D := D) (ci := 7) (v := .ref q1) (ty := .array .int) (C := RX7) (T := TX7) (N := 4) hx hb hts hi7 tyX7 tyX7_ok nmX7 hown hE.1 hP hD hS 0 rfl rfl 0 (by decide) hw4 (fun _ h9 => h9) rfl hin rfl (by decide +kernel) rfl rfl (Nat.le_of_ble_eq_true rfl) dX7_init_9 (fun H locs hP1 hD1 hS1 => ?_)
  replace hP : va_P D vwCl ([(h0, .inr (7, [.ref q1, .null, .null, .int 0])), (q1, .inl (cI, 8, .inl (fun _ => 0)))]) H := hP1
  replace hD : va_D A ([(h0, .inr (7, [.ref q1, .null, .null, .int 0])), (q1, .inl (cI, 8, .inl (fun _ => 0)))]) := hD1
  replace hS := hS1
  clear hP1 hD1 hS1
  refine lv_aload_n hx hb dX7_init_12 rfl (lv_at hl 0 rfl) ?_
  refine lv_bipush (v := 8) hx hb dX7_init_13 (by decide) ?_
  refine q_newi (N := 8) hx hb hw3 hE hP hD hS hA (by decide) (by decide +kernel) (by decide +kernel) (Nat.le_of_ble_eq_true rfl) (Nat.le_of_ble_eq_true rfl) dX7_init_15 (fun q2 H hP1 hD1 hS1 => ?_)
  replace hP : va_P D vwCl ([(h0, .inr (7, [.ref q1, .null, .null, .int 0])), (q1, .inl (cI, 8, .inl (fun _ => 0))), (q2, .inl (cI, 8, .inl (fun _ => 0)))]) H := hP1
  replace hD : va_D A ([(h0, .inr (7, [.ref q1, .null, .null, .int 0])), (q1, .inl (cI, 8, .inl (fun _ => 0))), (q2, .inl (cI, 8, .inl (fun _ => 0)))]) := hD1
  replace hS := hS1
  clear hP1 hD1 hS1
  refine W.widen (k := 2) (n := 16) (Nat.le_of_ble_eq_true rfl) (Nat.le_of_ble_eq_true rfl) ?_
  refine va_putF (D := D) (ci := 7) (v := .ref q2) (ty := .array .int) (C := RX7) (T := TX7) (N := 4) hx hb hts hi7 tyX7 tyX7_ok nmX7 hown hE.1 hP hD hS 0 rfl rfl 1 (by decide) hw5 (fun _ h9 => h9) rfl hin rfl (by decide +kernel) rfl rfl (Nat.le_of_ble_eq_true rfl) dX7_init_17 (fun H locs hP1 hD1 hS1 => ?_)
  replace hP : va_P D vwCl ([(h0, .inr (7, [.ref q1, .ref q2, .null, .int 0])), (q1, .inl (cI, 8, .inl (fun _ => 0))), (q2, .inl (cI, 8, .inl (fun _ => 0)))]) H := hP1
  replace hD : va_D A ([(h0, .inr (7, [.ref q1, .ref q2, .null, .int 0])), (q1, .inl (cI, 8, .inl (fun _ => 0))), (q2, .inl (cI, 8, .inl (fun _ => 0)))]) := hD1
  replace hS := hS1
  clear hP1 hD1 hS1
  refine lv_aload_n hx hb dX7_init_20 rfl (lv_at hl 0 rfl) ?_
  refine lv_bipush (v := 8) hx hb dX7_init_21 (by decide) ?_
  refine q_newi (N := 8) hx hb hw3 hE hP hD hS hA (by decide) (by decide +kernel) (by decide +kernel) (Nat.le_of_ble_eq_true rfl) (Nat.le_of_ble_eq_true rfl) dX7_init_23 (fun q3 H hP1 hD1 hS1 => ?_)
  replace hP : va_P D vwCl ([(h0, .inr (7, [.ref q1, .ref q2, .null, .int 0])), (q1, .inl (cI, 8, .inl (fun _ => 0))), (q2, .inl (cI, 8, .inl (fun _ => 0))), (q3, .inl (cI, 8, .inl (fun _ => 0)))]) H := hP1
  replace hD : va_D A ([(h0, .inr (7, [.ref q1, .ref q2, .null, .int 0])), (q1, .inl (cI, 8, .inl (fun _ => 0))), (q2, .inl (cI, 8, .inl (fun _ => 0))), (q3, .inl (cI, 8, .inl (fun _ => 0)))]) := hD1
  replace hS := hS1
  clear hP1 hD1 hS1
  refine W.widen (k := 3) (n := 24) (Nat.le_of_ble_eq_true rfl) (Nat.le_of_ble_eq_true rfl) ?_
  refine va_putF (D := D) (ci := 7) (v := .ref q3) (ty := .array .int) (C := RX7) (T := TX7) (N := 4) hx hb hts hi7 tyX7 tyX7_ok nmX7 hown hE.1 hP hD hS 0 rfl rfl 2 (by decide) hw6 (fun _ h9 => h9) rfl hin rfl (by decide +kernel) rfl rfl (Nat.le_of_ble_eq_true rfl) dX7_init_25 (fun H locs hP1 hD1 hS1 => ?_)
  replace hP : va_P D vwCl ([(h0, .inr (7, [.ref q1, .ref q2, .ref q3, .int 0])), (q1, .inl (cI, 8, .inl (fun _ => 0))), (q2, .inl (cI, 8, .inl (fun _ => 0))), (q3, .inl (cI, 8, .inl (fun _ => 0)))]) H := hP1
  replace hD : va_D A ([(h0, .inr (7, [.ref q1, .ref q2, .ref q3, .int 0])), (q1, .inl (cI, 8, .inl (fun _ => 0))), (q2, .inl (cI, 8, .inl (fun _ => 0))), (q3, .inl (cI, 8, .inl (fun _ => 0)))]) := hD1
  replace hS := hS1
  clear hP1 hD1 hS1
  refine lv_aload_n hx hb dX7_init_28 rfl (lv_at hl 0 rfl) ?_
  refine lv_iconst (v := 0) hx hb dX7_init_29 (by decide) ?_
  refine va_put (D := D) (ci := 7) (v := .int 0) (ty := .int) (C := RX7) (T := TX7) (N := 4) hx hb hts hi7 tyX7 tyX7_ok nmX7 hown hE.1 hP hD hS 0 rfl rfl 3 (by decide) hw7 (fun _ h9 => h9) rfl (by decide +kernel) rfl rfl (Nat.le_of_ble_eq_true rfl) dX7_init_30 (fun H locs hP1 hD1 hS1 => ?_)
  replace hP : va_P D vwCl ([(h0, .inr (7, [.ref q1, .ref q2, .ref q3, .int 0])), (q1, .inl (cI, 8, .inl (fun _ => 0))), (q2, .inl (cI, 8, .inl (fun _ => 0))), (q3, .inl (cI, 8, .inl (fun _ => 0)))]) H := hP1
  replace hD : va_D A ([(h0, .inr (7, [.ref q1, .ref q2, .ref q3, .int 0])), (q1, .inl (cI, 8, .inl (fun _ => 0))), (q2, .inl (cI, 8, .inl (fun _ => 0))), (q3, .inl (cI, 8, .inl (fun _ => 0)))]) := hD1
  replace hS := hS1
  clear hP1 hD1 hS1
  have hP9 : va_P D vwCl (wg7 cI cZ (fun j : Nat => ([h0, q1, q2, q3] : List Nat).getD j 0) sX7) H := hP
  have hD9 : va_D A (wg7 cI cZ (fun j : Nat => ([h0, q1, q2, q3] : List Nat).getD j 0) sX7) := hD
  exact W.vret hx hb hr (fun t e1 hW => ⟨⟨(), rfl, trivial, (fun j : Nat => ([h0, q1, q2, q3] : List Nat).getD j 0), rfl, by rw [e1]; exact hP9, hAe ▸ hD9⟩, hAe ▸ hS.F e1⟩) (hAe ▸ hS.2.2) dX7_init_33
def sX2 : St := (q_su (q_su (fun _ _ => 0) 4 0 (-6)) 5 0 (-6))
abbrev rmX2_init : Room := { frames := 1, cells := 3, slots := 102, locals := 12 }
set_option maxHeartbeats 8000000 in
set_option maxRecDepth 100000 in
theorem kX2_init (l : Launch) (D : va_G) (cI cZ cO : ClassId) (h0 sz : Nat) : Met l yX2_init wsX2_init rmX2_init (q_PM D cI cZ cO [.ref h0] sz ([(h0, .inr (2, [.null, .null, .null, .int 0, .int 0, .int 0]))] : va_W)) (va_Qv (fun _ : Unit => True) (fun _ t => ∃ d : Nat → Nat, d 0 = h0 ∧ va_P D vwCl (wg2 cI cZ d sX2) t.heap ∧ va_D (va_A ([(h0, .inr (2, [.null, .null, .null, .int 0, .int 0, .int 0]))] : va_W) sz) (wg2 cI cZ d sX2)) (va_A ([(h0, .inr (2, [.null, .null, .null, .int 0, .int 0, .int 0]))] : va_W) sz)) 3 102 (va_A ([(h0, .inr (2, [.null, .null, .null, .int 0, .int 0, .int 0]))] : va_W) sz) := by
  refine Met.ofW (cc := cX2_init) (maxL := 1) (ret := none) (by decide) rfl ?_
  intro p e s m args below meth c s₁ B hml hv
  obtain ⟨rfl, hsz, hE, hP, hD0⟩ := hv
  have hx := B.exec
  have hb := B.bytes
  have hr := B.returns
  have hts := atoms_spec (ws := wsX2_init) B.pre
  have hown : s.vm.findClass RX2 = some m.cls := findClass_of_methodNamed B.named
  have hlocks := B.notSynchronized
  have hin : meth.name = "<init>" := (name_of_methodNamed B.named B.method).1
  have hi2 : ∀ w ∈ u_ws RX2 TX2 6, w ∈ wsX2_init := by decide +kernel
  have hw0 := hts (.methodLink RX2 3 objectInit) (by decide +kernel)
  have hw1 := hts (.instanceMethod objectInit) (by decide +kernel)
  have hw2 := hts (.code objectInit ⟨#[0xb1]⟩ 1 none) (by decide +kernel)
  have hw3 := hts (.arrayClass .int) (by decide +kernel)
  have hw4 := hts (.fieldLink RX2 9 "HailNames$NetFinder" "fitting" "[I") (by decide +kernel)
  have hw5 := hts (.fieldLink RX2 15 "HailNames$NetFinder" "netsByThinkers" "[I") (by decide +kernel)
  have hw6 := hts (.fieldLink RX2 18 "HailNames$NetFinder" "netsByAnswer" "[I") (by decide +kernel)
  have hw7 := hts (.fieldLink RX2 21 "HailNames$NetFinder" "found" "I") (by decide +kernel)
  have hw8 := hts (.fieldLink RX2 25 "HailNames$NetFinder" "question" "I") (by decide +kernel)
  have hw9 := hts (.fieldLink RX2 28 "HailNames$NetFinder" "mostLeft" "I") (by decide +kernel)
  subst hsz
  have hD := hD0.self (sz := s.heap.size)
  generalize hAe : va_A ([(h0, .inr (2, [.null, .null, .null, .int 0, .int 0, .int 0]))] : va_W) s.heap.size = A at hD
  have hA : ∀ q : Nat, s.heap.size ≤ q → A q := fun q h => by rw [← hAe]; exact Or.inr h
  have hS : va_S A s.heap s.heap [] := va_S.rf
  have hl := lv_entry ([.ref h0]) (n := 1) (Nat.le_of_ble_eq_true rfl)
  rw [lg_entry_eq]
  generalize (lg_sl ([.ref h0]) ++ List.replicate (1 - (lg_sl ([.ref h0])).length) Slot.unset).toArray = ls at hl ⊢
  have hl : lv_has ls 1 [(0, .ref h0)] := hl
  obtain ⟨H, hH⟩ : ∃ H, H = s.heap := ⟨_, rfl⟩
  rw [← hH] at hP
  have hS : va_S A s.heap H [] := by rw [hH]; exact hS
  rw [show W p l e (headSpec wsX2_init rmX2_init).room s m ([.ref h0] : List Value).toArray below meth c s.heap = W p l e (headSpec wsX2_init rmX2_init).room s m ([.ref h0] : List Value).toArray below meth c H by rw [hH]]
  refine lv_aload_n hx hb dX2_init_0 rfl (lv_at hl 0 rfl) ?_
  refine W.objInit hx hb hown hw0 hw1 hw2 rfl (by rw [hml]; exact hl.1) rfl dX2_init_1 (Nat.le_of_ble_eq_true rfl) (Nat.le_of_ble_eq_true rfl) ?_
  refine W.eq (g2 := F0 m 4 ls []) rfl ?_
  refine lv_aload_n hx hb dX2_init_4 rfl (lv_at hl 0 rfl) ?_
  refine lv_bipush (v := 81) hx hb dX2_init_5 (by decide) ?_
  refine q_newi (N := 81) hx hb hw3 hE hP hD hS hA (by decide) (by decide +kernel) (by decide +kernel) (Nat.le_of_ble_eq_true rfl) (Nat.le_of_ble_eq_true rfl) dX2_init_7 (fun q1 H hP1 hD1 hS1 => ?_)
  replace hP : va_P D vwCl ([(h0, .inr (2, [.null, .null, .null, .int 0, .int 0, .int 0])), (q1, .inl (cI, 81, .inl (fun _ => 0)))]) H := hP1
  replace hD : va_D A ([(h0, .inr (2, [.null, .null, .null, .int 0, .int 0, .int 0])), (q1, .inl (cI, 81, .inl (fun _ => 0)))]) := hD1
  replace hS := hS1
  clear hP1 hD1 hS1
  refine W.widen (k := 1) (n := 81) (Nat.le_of_ble_eq_true rfl) (Nat.le_of_ble_eq_true rfl) ?_
  refine va_putF (D := D) (ci := 2) (v := .ref q1) (ty := .array .int) (C := RX2) (T := TX2) (N := 6) hx hb hts hi2 tyX2 tyX2_ok nmX2 hown hE.1 hP hD hS 0 rfl rfl 0 (by decide) hw4 (fun _ h9 => h9) rfl hin rfl (by decide +kernel) rfl rfl (Nat.le_of_ble_eq_true rfl) dX2_init_9 (fun H locs hP1 hD1 hS1 => ?_)
  replace hP : va_P D vwCl ([(h0, .inr (2, [.ref q1, .null, .null, .int 0, .int 0, .int 0])), (q1, .inl (cI, 81, .inl (fun _ => 0)))]) H := hP1
  replace hD : va_D A ([(h0, .inr (2, [.ref q1, .null, .null, .int 0, .int 0, .int 0])), (q1, .inl (cI, 81, .inl (fun _ => 0)))]) := hD1
  replace hS := hS1
  clear hP1 hD1 hS1
  refine lv_aload_n hx hb dX2_init_12 rfl (lv_at hl 0 rfl) ?_
  refine lv_bipush (v := 16) hx hb dX2_init_13 (by decide) ?_
  refine q_newi (N := 16) hx hb hw3 hE hP hD hS hA (by decide) (by decide +kernel) (by decide +kernel) (Nat.le_of_ble_eq_true rfl) (Nat.le_of_ble_eq_true rfl) dX2_init_15 (fun q2 H hP1 hD1 hS1 => ?_)
  replace hP : va_P D vwCl ([(h0, .inr (2, [.ref q1, .null, .null, .int 0, .int 0, .int 0])), (q1, .inl (cI, 81, .inl (fun _ => 0))), (q2, .inl (cI, 16, .inl (fun _ => 0)))]) H := hP1
  replace hD : va_D A ([(h0, .inr (2, [.ref q1, .null, .null, .int 0, .int 0, .int 0])), (q1, .inl (cI, 81, .inl (fun _ => 0))), (q2, .inl (cI, 16, .inl (fun _ => 0)))]) := hD1
  replace hS := hS1
  clear hP1 hD1 hS1
  refine W.widen (k := 2) (n := 97) (Nat.le_of_ble_eq_true rfl) (Nat.le_of_ble_eq_true rfl) ?_
  refine va_putF (D := D) (ci := 2) (v := .ref q2) (ty := .array .int) (C := RX2) (T := TX2) (N := 6) hx hb hts hi2 tyX2 tyX2_ok nmX2 hown hE.1 hP hD hS 0 rfl rfl 1 (by decide) hw5 (fun _ h9 => h9) rfl hin rfl (by decide +kernel) rfl rfl (Nat.le_of_ble_eq_true rfl) dX2_init_17 (fun H locs hP1 hD1 hS1 => ?_)
  replace hP : va_P D vwCl ([(h0, .inr (2, [.ref q1, .ref q2, .null, .int 0, .int 0, .int 0])), (q1, .inl (cI, 81, .inl (fun _ => 0))), (q2, .inl (cI, 16, .inl (fun _ => 0)))]) H := hP1
  replace hD : va_D A ([(h0, .inr (2, [.ref q1, .ref q2, .null, .int 0, .int 0, .int 0])), (q1, .inl (cI, 81, .inl (fun _ => 0))), (q2, .inl (cI, 16, .inl (fun _ => 0)))]) := hD1
  replace hS := hS1
  clear hP1 hD1 hS1
  refine lv_aload_n hx hb dX2_init_20 rfl (lv_at hl 0 rfl) ?_
  refine lv_iconst (v := 5) hx hb dX2_init_21 (by decide) ?_
  refine q_newi (N := 5) hx hb hw3 hE hP hD hS hA (by decide) (by decide +kernel) (by decide +kernel) (Nat.le_of_ble_eq_true rfl) (Nat.le_of_ble_eq_true rfl) dX2_init_22 (fun q3 H hP1 hD1 hS1 => ?_)
  replace hP : va_P D vwCl ([(h0, .inr (2, [.ref q1, .ref q2, .null, .int 0, .int 0, .int 0])), (q1, .inl (cI, 81, .inl (fun _ => 0))), (q2, .inl (cI, 16, .inl (fun _ => 0))), (q3, .inl (cI, 5, .inl (fun _ => 0)))]) H := hP1
  replace hD : va_D A ([(h0, .inr (2, [.ref q1, .ref q2, .null, .int 0, .int 0, .int 0])), (q1, .inl (cI, 81, .inl (fun _ => 0))), (q2, .inl (cI, 16, .inl (fun _ => 0))), (q3, .inl (cI, 5, .inl (fun _ => 0)))]) := hD1
  replace hS := hS1
  clear hP1 hD1 hS1
  refine W.widen (k := 3) (n := 102) (Nat.le_of_ble_eq_true rfl) (Nat.le_of_ble_eq_true rfl) ?_
  refine va_putF (D := D) (ci := 2) (v := .ref q3) (ty := .array .int) (C := RX2) (T := TX2) (N := 6) hx hb hts hi2 tyX2 tyX2_ok nmX2 hown hE.1 hP hD hS 0 rfl rfl 2 (by decide) hw6 (fun _ h9 => h9) rfl hin rfl (by decide +kernel) rfl rfl (Nat.le_of_ble_eq_true rfl) dX2_init_24 (fun H locs hP1 hD1 hS1 => ?_)
  replace hP : va_P D vwCl ([(h0, .inr (2, [.ref q1, .ref q2, .ref q3, .int 0, .int 0, .int 0])), (q1, .inl (cI, 81, .inl (fun _ => 0))), (q2, .inl (cI, 16, .inl (fun _ => 0))), (q3, .inl (cI, 5, .inl (fun _ => 0)))]) H := hP1
  replace hD : va_D A ([(h0, .inr (2, [.ref q1, .ref q2, .ref q3, .int 0, .int 0, .int 0])), (q1, .inl (cI, 81, .inl (fun _ => 0))), (q2, .inl (cI, 16, .inl (fun _ => 0))), (q3, .inl (cI, 5, .inl (fun _ => 0)))]) := hD1
  replace hS := hS1
  clear hP1 hD1 hS1
  refine lv_aload_n hx hb dX2_init_27 rfl (lv_at hl 0 rfl) ?_
  refine lv_iconst (v := 0) hx hb dX2_init_28 (by decide) ?_
  refine va_put (D := D) (ci := 2) (v := .int 0) (ty := .int) (C := RX2) (T := TX2) (N := 6) hx hb hts hi2 tyX2 tyX2_ok nmX2 hown hE.1 hP hD hS 0 rfl rfl 3 (by decide) hw7 (fun _ h9 => h9) rfl (by decide +kernel) rfl rfl (Nat.le_of_ble_eq_true rfl) dX2_init_29 (fun H locs hP1 hD1 hS1 => ?_)
  replace hP : va_P D vwCl ([(h0, .inr (2, [.ref q1, .ref q2, .ref q3, .int 0, .int 0, .int 0])), (q1, .inl (cI, 81, .inl (fun _ => 0))), (q2, .inl (cI, 16, .inl (fun _ => 0))), (q3, .inl (cI, 5, .inl (fun _ => 0)))]) H := hP1
  replace hD : va_D A ([(h0, .inr (2, [.ref q1, .ref q2, .ref q3, .int 0, .int 0, .int 0])), (q1, .inl (cI, 81, .inl (fun _ => 0))), (q2, .inl (cI, 16, .inl (fun _ => 0))), (q3, .inl (cI, 5, .inl (fun _ => 0)))]) := hD1
  replace hS := hS1
  clear hP1 hD1 hS1
  refine lv_aload_n hx hb dX2_init_32 rfl (lv_at hl 0 rfl) ?_
  refine lv_bipush (v := (-6)) hx hb dX2_init_33 (by decide) ?_
  refine va_put (D := D) (ci := 2) (v := .int (-6)) (ty := .int) (C := RX2) (T := TX2) (N := 6) hx hb hts hi2 tyX2 tyX2_ok nmX2 hown hE.1 hP hD hS 0 rfl rfl 4 (by decide) hw8 (fun _ h9 => h9) rfl (by decide +kernel) rfl rfl (Nat.le_of_ble_eq_true rfl) dX2_init_35 (fun H locs hP1 hD1 hS1 => ?_)
  replace hP : va_P D vwCl ([(h0, .inr (2, [.ref q1, .ref q2, .ref q3, .int 0, .int (-6), .int 0])), (q1, .inl (cI, 81, .inl (fun _ => 0))), (q2, .inl (cI, 16, .inl (fun _ => 0))), (q3, .inl (cI, 5, .inl (fun _ => 0)))]) H := hP1
  replace hD : va_D A ([(h0, .inr (2, [.ref q1, .ref q2, .ref q3, .int 0, .int (-6), .int 0])), (q1, .inl (cI, 81, .inl (fun _ => 0))), (q2, .inl (cI, 16, .inl (fun _ => 0))), (q3, .inl (cI, 5, .inl (fun _ => 0)))]) := hD1
  replace hS := hS1
  clear hP1 hD1 hS1
  refine lv_aload_n hx hb dX2_init_38 rfl (lv_at hl 0 rfl) ?_
  refine lv_bipush (v := (-6)) hx hb dX2_init_39 (by decide) ?_
  refine va_put (D := D) (ci := 2) (v := .int (-6)) (ty := .int) (C := RX2) (T := TX2) (N := 6) hx hb hts hi2 tyX2 tyX2_ok nmX2 hown hE.1 hP hD hS 0 rfl rfl 5 (by decide) hw9 (fun _ h9 => h9) rfl (by decide +kernel) rfl rfl (Nat.le_of_ble_eq_true rfl) dX2_init_41 (fun H locs hP1 hD1 hS1 => ?_)
  replace hP : va_P D vwCl ([(h0, .inr (2, [.ref q1, .ref q2, .ref q3, .int 0, .int (-6), .int (-6)])), (q1, .inl (cI, 81, .inl (fun _ => 0))), (q2, .inl (cI, 16, .inl (fun _ => 0))), (q3, .inl (cI, 5, .inl (fun _ => 0)))]) H := hP1
  replace hD : va_D A ([(h0, .inr (2, [.ref q1, .ref q2, .ref q3, .int 0, .int (-6), .int (-6)])), (q1, .inl (cI, 81, .inl (fun _ => 0))), (q2, .inl (cI, 16, .inl (fun _ => 0))), (q3, .inl (cI, 5, .inl (fun _ => 0)))]) := hD1
  replace hS := hS1
  clear hP1 hD1 hS1
  have hP9 : va_P D vwCl (wg2 cI cZ (fun j : Nat => ([h0, q1, q2, q3] : List Nat).getD j 0) sX2) H := hP
  have hD9 : va_D A (wg2 cI cZ (fun j : Nat => ([h0, q1, q2, q3] : List Nat).getD j 0) sX2) := hD
  exact W.vret hx hb hr (fun t e1 hW => ⟨⟨(), rfl, trivial, (fun j : Nat => ([h0, q1, q2, q3] : List Nat).getD j 0), rfl, by rw [e1]; exact hP9, hAe ▸ hD9⟩, hAe ▸ hS.F e1⟩) (hAe ▸ hS.2.2) dX2_init_44
def sX6 : St := (fun _ _ => 0)
abbrev rmX6_init : Room := { frames := 1, cells := 1, slots := 2048, locals := 12 }
set_option maxHeartbeats 8000000 in
set_option maxRecDepth 100000 in
theorem kX6_init (l : Launch) (D : va_G) (cI cZ cO : ClassId) (h0 sz : Nat) : Met l yX6_init wsX6_init rmX6_init (q_PM D cI cZ cO [.ref h0] sz ([(h0, .inr (6, [.null]))] : va_W)) (va_Qv (fun _ : Unit => True) (fun _ t => ∃ d : Nat → Nat, d 0 = h0 ∧ va_P D vwCl (wg6 cI cZ d sX6) t.heap ∧ va_D (va_A ([(h0, .inr (6, [.null]))] : va_W) sz) (wg6 cI cZ d sX6)) (va_A ([(h0, .inr (6, [.null]))] : va_W) sz)) 1 2048 (va_A ([(h0, .inr (6, [.null]))] : va_W) sz) := by
  refine Met.ofW (cc := cX6_init) (maxL := 1) (ret := none) (by decide) rfl ?_
  intro p e s m args below meth c s₁ B hml hv
  obtain ⟨rfl, hsz, hE, hP, hD0⟩ := hv
  have hx := B.exec
  have hb := B.bytes
  have hr := B.returns
  have hts := atoms_spec (ws := wsX6_init) B.pre
  have hown : s.vm.findClass RX6 = some m.cls := findClass_of_methodNamed B.named
  have hlocks := B.notSynchronized
  have hin : meth.name = "<init>" := (name_of_methodNamed B.named B.method).1
  have hi6 : ∀ w ∈ u_ws RX6 TX6 1, w ∈ wsX6_init := by decide +kernel
  have hw0 := hts (.methodLink RX6 3 objectInit) (by decide +kernel)
  have hw1 := hts (.instanceMethod objectInit) (by decide +kernel)
  have hw2 := hts (.code objectInit ⟨#[0xb1]⟩ 1 none) (by decide +kernel)
  have hw3 := hts (.arrayClass .int) (by decide +kernel)
  have hw4 := hts (.fieldLink RX6 9 "HailNames$Planner" "freeFrom" "[I") (by decide +kernel)
  subst hsz
  have hD := hD0.self (sz := s.heap.size)
  generalize hAe : va_A ([(h0, .inr (6, [.null]))] : va_W) s.heap.size = A at hD
  have hA : ∀ q : Nat, s.heap.size ≤ q → A q := fun q h => by rw [← hAe]; exact Or.inr h
  have hS : va_S A s.heap s.heap [] := va_S.rf
  have hl := lv_entry ([.ref h0]) (n := 1) (Nat.le_of_ble_eq_true rfl)
  rw [lg_entry_eq]
  generalize (lg_sl ([.ref h0]) ++ List.replicate (1 - (lg_sl ([.ref h0])).length) Slot.unset).toArray = ls at hl ⊢
  have hl : lv_has ls 1 [(0, .ref h0)] := hl
  obtain ⟨H, hH⟩ : ∃ H, H = s.heap := ⟨_, rfl⟩
  rw [← hH] at hP
  have hS : va_S A s.heap H [] := by rw [hH]; exact hS
  rw [show W p l e (headSpec wsX6_init rmX6_init).room s m ([.ref h0] : List Value).toArray below meth c s.heap = W p l e (headSpec wsX6_init rmX6_init).room s m ([.ref h0] : List Value).toArray below meth c H by rw [hH]]
  refine lv_aload_n hx hb dX6_init_0 rfl (lv_at hl 0 rfl) ?_
  refine W.objInit hx hb hown hw0 hw1 hw2 rfl (by rw [hml]; exact hl.1) rfl dX6_init_1 (Nat.le_of_ble_eq_true rfl) (Nat.le_of_ble_eq_true rfl) ?_
  refine W.eq (g2 := F0 m 4 ls []) rfl ?_
  refine lv_aload_n hx hb dX6_init_4 rfl (lv_at hl 0 rfl) ?_
  refine lv_sipush (v := 2048) hx hb dX6_init_5 (by decide +kernel) ?_
  refine q_newi (N := 2048) hx hb hw3 hE hP hD hS hA (by decide) (by decide +kernel) (by decide +kernel) (Nat.le_of_ble_eq_true rfl) (Nat.le_of_ble_eq_true rfl) dX6_init_8 (fun q1 H hP1 hD1 hS1 => ?_)
  replace hP : va_P D vwCl ([(h0, .inr (6, [.null])), (q1, .inl (cI, 2048, .inl (fun _ => 0)))]) H := hP1
  replace hD : va_D A ([(h0, .inr (6, [.null])), (q1, .inl (cI, 2048, .inl (fun _ => 0)))]) := hD1
  replace hS := hS1
  clear hP1 hD1 hS1
  refine W.widen (k := 1) (n := 2048) (Nat.le_of_ble_eq_true rfl) (Nat.le_of_ble_eq_true rfl) ?_
  refine va_putF (D := D) (ci := 6) (v := .ref q1) (ty := .array .int) (C := RX6) (T := TX6) (N := 1) hx hb hts hi6 tyX6 tyX6_ok nmX6 hown hE.1 hP hD hS 0 rfl rfl 0 (by decide) hw4 (fun _ h9 => h9) rfl hin rfl (by decide +kernel) rfl rfl (Nat.le_of_ble_eq_true rfl) dX6_init_10 (fun H locs hP1 hD1 hS1 => ?_)
  replace hP : va_P D vwCl ([(h0, .inr (6, [.ref q1])), (q1, .inl (cI, 2048, .inl (fun _ => 0)))]) H := hP1
  replace hD : va_D A ([(h0, .inr (6, [.ref q1])), (q1, .inl (cI, 2048, .inl (fun _ => 0)))]) := hD1
  replace hS := hS1
  clear hP1 hD1 hS1
  have hP9 : va_P D vwCl (wg6 cI cZ (fun j : Nat => ([h0, q1] : List Nat).getD j 0) sX6) H := hP
  have hD9 : va_D A (wg6 cI cZ (fun j : Nat => ([h0, q1] : List Nat).getD j 0) sX6) := hD
  exact W.vret hx hb hr (fun t e1 hW => ⟨⟨(), rfl, trivial, (fun j : Nat => ([h0, q1] : List Nat).getD j 0), rfl, by rw [e1]; exact hP9, hAe ▸ hD9⟩, hAe ▸ hS.F e1⟩) (hAe ▸ hS.2.2) dX6_init_13
