def sX5 : St := (q_su (q_su (q_su (q_su (q_su (q_su (q_su (q_su (q_su (q_su (q_su (q_su (q_su (fun _ _ => 0) 9 0 1) 2 ((0 : Int32).toNatClampNeg) (-6)) 2 ((1 : Int32).toNatClampNeg) (-6)) 2 ((2 : Int32).toNatClampNeg) (-6)) 2 ((3 : Int32).toNatClampNeg) (-6)) 2 ((4 : Int32).toNatClampNeg) (-6)) 2 ((5 : Int32).toNatClampNeg) (-6)) 2 ((6 : Int32).toNatClampNeg) (-6)) 2 ((7 : Int32).toNatClampNeg) (-6)) 5 ((0 : Int32).toNatClampNeg) (3 * 0)) 5 ((1 : Int32).toNatClampNeg) (3 * 1)) 5 ((2 : Int32).toNatClampNeg) (3 * 2)) 5 ((3 : Int32).toNatClampNeg) (3 * 3))
abbrev rmX5_init : Room := { frames := 1, cells := 9, slots := 56, locals := 12 }
set_option maxHeartbeats 8000000 in
set_option maxRecDepth 100000 in
theorem kX5_init (l : Launch) (D : va_G) (cI cZ cO : ClassId) (h0 sz : Nat) : Met l yX5_init wsX5_init rmX5_init (q_PM D cI cZ cO [.ref h0] sz ([(h0, .inr (5, [.null, .null, .null, .null, .null, .null, .null, .null, .null, .int 0, .int 0]))] : va_W)) (va_Qv (fun _ : Unit => True) (fun _ t => ∃ d : Nat → Nat, d 0 = h0 ∧ va_P D vwCl (wg5 cI cZ d sX5) t.heap ∧ va_D (va_A ([(h0, .inr (5, [.null, .null, .null, .null, .null, .null, .null, .null, .null, .int 0, .int 0]))] : va_W) sz) (wg5 cI cZ d sX5)) (va_A ([(h0, .inr (5, [.null, .null, .null, .null, .null, .null, .null, .null, .null, .int 0, .int 0]))] : va_W) sz)) 9 56 (va_A ([(h0, .inr (5, [.null, .null, .null, .null, .null, .null, .null, .null, .null, .int 0, .int 0]))] : va_W) sz) := by
  refine Met.ofW (cc := cX5_init) (maxL := 2) (ret := none) (by decide) rfl ?_
  intro p e s m args below meth c s₁ B hml hv
  obtain ⟨rfl, hsz, hE, hP, hD0⟩ := hv
  have hx := B.exec
  have hb := B.bytes
  have hr := B.returns
  have hts := atoms_spec (ws := wsX5_init) B.pre
  have hown : s.vm.findClass RX5 = some m.cls := findClass_of_methodNamed B.named
  have hlocks := B.notSynchronized
  have hin : meth.name = "<init>" := (name_of_methodNamed B.named B.method).1
  have hi5 : ∀ w ∈ u_ws RX5 TX5 11, w ∈ wsX5_init := by decide +kernel
  have hw0 := hts (.methodLink RX5 3 objectInit) (by decide +kernel)
  have hw1 := hts (.instanceMethod objectInit) (by decide +kernel)
  have hw2 := hts (.code objectInit ⟨#[0xb1]⟩ 1 none) (by decide +kernel)
  have hw3 := hts (.arrayClass .int) (by decide +kernel)
  have hw4 := hts (.fieldLink RX5 9 "HailNames$Plain" "count" "[I") (by decide +kernel)
  have hw5 := hts (.fieldLink RX5 15 "HailNames$Plain" "noted" "[I") (by decide +kernel)
  have hw6 := hts (.fieldLink RX5 18 "HailNames$Plain" "cell" "[I") (by decide +kernel)
  have hw7 := hts (.fieldLink RX5 21 "HailNames$Plain" "size" "[I") (by decide +kernel)
  have hw8 := hts (.fieldLink RX5 24 "HailNames$Plain" "figure" "[I") (by decide +kernel)
  have hw9 := hts (.fieldLink RX5 27 "HailNames$Plain" "place" "[I") (by decide +kernel)
  have hw10 := hts (.fieldLink RX5 30 "HailNames$Plain" "stunned" "[I") (by decide +kernel)
  have hw11 := hts (.fieldLink RX5 33 "HailNames$Plain" "stonesRead" "[I") (by decide +kernel)
  have hw12 := hts (.arrayClass .boolean) (by decide +kernel)
  have hw13 := hts (.fieldLink RX5 36 "HailNames$Plain" "acted" "[Z") (by decide +kernel)
  have hw14 := hts (.fieldLink RX5 40 "HailNames$Plain" "melting" "I") (by decide +kernel)
  have hw15 := hts (.fieldLink RX5 44 "HailNames$Plain" "second" "I") (by decide +kernel)
  subst hsz
  have hD := hD0.self (sz := s.heap.size)
  generalize hAe : va_A ([(h0, .inr (5, [.null, .null, .null, .null, .null, .null, .null, .null, .null, .int 0, .int 0]))] : va_W) s.heap.size = A at hD
  have hA : ∀ q : Nat, s.heap.size ≤ q → A q := fun q h => by rw [← hAe]; exact Or.inr h
  have hS : va_S A s.heap s.heap [] := va_S.rf
  have hl := lv_entry ([.ref h0]) (n := 2) (Nat.le_of_ble_eq_true rfl)
  rw [lg_entry_eq]
  generalize (lg_sl ([.ref h0]) ++ List.replicate (2 - (lg_sl ([.ref h0])).length) Slot.unset).toArray = ls at hl ⊢
  have hl : lv_has ls 2 [(0, .ref h0)] := hl
  obtain ⟨H, hH⟩ : ∃ H, H = s.heap := ⟨_, rfl⟩
  rw [← hH] at hP
  have hS : va_S A s.heap H [] := by rw [hH]; exact hS
  rw [show W p l e (headSpec wsX5_init rmX5_init).room s m ([.ref h0] : List Value).toArray below meth c s.heap = W p l e (headSpec wsX5_init rmX5_init).room s m ([.ref h0] : List Value).toArray below meth c H by rw [hH]]
  refine lv_aload_n hx hb dX5_init_0 rfl (lv_at hl 0 rfl) ?_
  refine W.objInit hx hb hown hw0 hw1 hw2 rfl (by rw [hml]; exact hl.1) rfl dX5_init_1 (Nat.le_of_ble_eq_true rfl) (Nat.le_of_ble_eq_true rfl) ?_
  refine W.eq (g2 := F0 m 4 ls []) rfl ?_
  refine lv_aload_n hx hb dX5_init_4 rfl (lv_at hl 0 rfl) ?_
  refine lv_bipush (v := 8) hx hb dX5_init_5 (by decide) ?_
  refine q_newi (N := 8) hx hb hw3 hE hP hD hS hA (by decide) (by decide +kernel) (by decide +kernel) (Nat.le_of_ble_eq_true rfl) (Nat.le_of_ble_eq_true rfl) dX5_init_7 (fun q1 H hP1 hD1 hS1 => ?_)
  replace hP : va_P D vwCl ([(h0, .inr (5, [.null, .null, .null, .null, .null, .null, .null, .null, .null, .int 0, .int 0])), (q1, .inl (cI, 8, .inl (fun _ => 0)))]) H := hP1
  replace hD : va_D A ([(h0, .inr (5, [.null, .null, .null, .null, .null, .null, .null, .null, .null, .int 0, .int 0])), (q1, .inl (cI, 8, .inl (fun _ => 0)))]) := hD1
  replace hS := hS1
  clear hP1 hD1 hS1
  refine W.widen (k := 1) (n := 8) (Nat.le_of_ble_eq_true rfl) (Nat.le_of_ble_eq_true rfl) ?_
  refine va_putF (D := D) (ci := 5) (v := .ref q1) (ty := .array .int) (C := RX5) (T := TX5) (N := 11) hx hb hts hi5 tyX5 tyX5_ok nmX5 hown hE.1 hP hD hS 0 rfl rfl 0 (by decide) hw4 (fun _ h9 => h9) rfl hin rfl (by decide +kernel) rfl rfl (Nat.le_of_ble_eq_true rfl) dX5_init_9 (fun H locs hP1 hD1 hS1 => ?_)
  replace hP : va_P D vwCl ([(h0, .inr (5, [.ref q1, .null, .null, .null, .null, .null, .null, .null, .null, .int 0, .int 0])), (q1, .inl (cI, 8, .inl (fun _ => 0)))]) H := hP1
  replace hD : va_D A ([(h0, .inr (5, [.ref q1, .null, .null, .null, .null, .null, .null, .null, .null, .int 0, .int 0])), (q1, .inl (cI, 8, .inl (fun _ => 0)))]) := hD1
  replace hS := hS1
  clear hP1 hD1 hS1
  refine lv_aload_n hx hb dX5_init_12 rfl (lv_at hl 0 rfl) ?_
  refine lv_bipush (v := 8) hx hb dX5_init_13 (by decide) ?_
  refine q_newi (N := 8) hx hb hw3 hE hP hD hS hA (by decide) (by decide +kernel) (by decide +kernel) (Nat.le_of_ble_eq_true rfl) (Nat.le_of_ble_eq_true rfl) dX5_init_15 (fun q2 H hP1 hD1 hS1 => ?_)
  replace hP : va_P D vwCl ([(h0, .inr (5, [.ref q1, .null, .null, .null, .null, .null, .null, .null, .null, .int 0, .int 0])), (q1, .inl (cI, 8, .inl (fun _ => 0))), (q2, .inl (cI, 8, .inl (fun _ => 0)))]) H := hP1
  replace hD : va_D A ([(h0, .inr (5, [.ref q1, .null, .null, .null, .null, .null, .null, .null, .null, .int 0, .int 0])), (q1, .inl (cI, 8, .inl (fun _ => 0))), (q2, .inl (cI, 8, .inl (fun _ => 0)))]) := hD1
  replace hS := hS1
  clear hP1 hD1 hS1
  refine W.widen (k := 2) (n := 16) (Nat.le_of_ble_eq_true rfl) (Nat.le_of_ble_eq_true rfl) ?_
  refine va_putF (D := D) (ci := 5) (v := .ref q2) (ty := .array .int) (C := RX5) (T := TX5) (N := 11) hx hb hts hi5 tyX5 tyX5_ok nmX5 hown hE.1 hP hD hS 0 rfl rfl 1 (by decide) hw5 (fun _ h9 => h9) rfl hin rfl (by decide +kernel) rfl rfl (Nat.le_of_ble_eq_true rfl) dX5_init_17 (fun H locs hP1 hD1 hS1 => ?_)
  replace hP : va_P D vwCl ([(h0, .inr (5, [.ref q1, .ref q2, .null, .null, .null, .null, .null, .null, .null, .int 0, .int 0])), (q1, .inl (cI, 8, .inl (fun _ => 0))), (q2, .inl (cI, 8, .inl (fun _ => 0)))]) H := hP1
  replace hD : va_D A ([(h0, .inr (5, [.ref q1, .ref q2, .null, .null, .null, .null, .null, .null, .null, .int 0, .int 0])), (q1, .inl (cI, 8, .inl (fun _ => 0))), (q2, .inl (cI, 8, .inl (fun _ => 0)))]) := hD1
  replace hS := hS1
  clear hP1 hD1 hS1
  refine lv_aload_n hx hb dX5_init_20 rfl (lv_at hl 0 rfl) ?_
  refine lv_bipush (v := 8) hx hb dX5_init_21 (by decide) ?_
  refine q_newi (N := 8) hx hb hw3 hE hP hD hS hA (by decide) (by decide +kernel) (by decide +kernel) (Nat.le_of_ble_eq_true rfl) (Nat.le_of_ble_eq_true rfl) dX5_init_23 (fun q3 H hP1 hD1 hS1 => ?_)
  replace hP : va_P D vwCl ([(h0, .inr (5, [.ref q1, .ref q2, .null, .null, .null, .null, .null, .null, .null, .int 0, .int 0])), (q1, .inl (cI, 8, .inl (fun _ => 0))), (q2, .inl (cI, 8, .inl (fun _ => 0))), (q3, .inl (cI, 8, .inl (fun _ => 0)))]) H := hP1
  replace hD : va_D A ([(h0, .inr (5, [.ref q1, .ref q2, .null, .null, .null, .null, .null, .null, .null, .int 0, .int 0])), (q1, .inl (cI, 8, .inl (fun _ => 0))), (q2, .inl (cI, 8, .inl (fun _ => 0))), (q3, .inl (cI, 8, .inl (fun _ => 0)))]) := hD1
  replace hS := hS1
  clear hP1 hD1 hS1
  refine W.widen (k := 3) (n := 24) (Nat.le_of_ble_eq_true rfl) (Nat.le_of_ble_eq_true rfl) ?_
  refine va_putF (D := D) (ci := 5) (v := .ref q3) (ty := .array .int) (C := RX5) (T := TX5) (N := 11) hx hb hts hi5 tyX5 tyX5_ok nmX5 hown hE.1 hP hD hS 0 rfl rfl 2 (by decide) hw6 (fun _ h9 => h9) rfl hin rfl (by decide +kernel) rfl rfl (Nat.le_of_ble_eq_true rfl) dX5_init_25 (fun H locs hP1 hD1 hS1 => ?_)
  replace hP : va_P D vwCl ([(h0, .inr (5, [.ref q1, .ref q2, .ref q3, .null, .null, .null, .null, .null, .null, .int 0, .int 0])), (q1, .inl (cI, 8, .inl (fun _ => 0))), (q2, .inl (cI, 8, .inl (fun _ => 0))), (q3, .inl (cI, 8, .inl (fun _ => 0)))]) H := hP1
  replace hD : va_D A ([(h0, .inr (5, [.ref q1, .ref q2, .ref q3, .null, .null, .null, .null, .null, .null, .int 0, .int 0])), (q1, .inl (cI, 8, .inl (fun _ => 0))), (q2, .inl (cI, 8, .inl (fun _ => 0))), (q3, .inl (cI, 8, .inl (fun _ => 0)))]) := hD1
  replace hS := hS1
  clear hP1 hD1 hS1
  refine lv_aload_n hx hb dX5_init_28 rfl (lv_at hl 0 rfl) ?_
  refine lv_bipush (v := 8) hx hb dX5_init_29 (by decide) ?_
  refine q_newi (N := 8) hx hb hw3 hE hP hD hS hA (by decide) (by decide +kernel) (by decide +kernel) (Nat.le_of_ble_eq_true rfl) (Nat.le_of_ble_eq_true rfl) dX5_init_31 (fun q4 H hP1 hD1 hS1 => ?_)
  replace hP : va_P D vwCl ([(h0, .inr (5, [.ref q1, .ref q2, .ref q3, .null, .null, .null, .null, .null, .null, .int 0, .int 0])), (q1, .inl (cI, 8, .inl (fun _ => 0))), (q2, .inl (cI, 8, .inl (fun _ => 0))), (q3, .inl (cI, 8, .inl (fun _ => 0))), (q4, .inl (cI, 8, .inl (fun _ => 0)))]) H := hP1
  replace hD : va_D A ([(h0, .inr (5, [.ref q1, .ref q2, .ref q3, .null, .null, .null, .null, .null, .null, .int 0, .int 0])), (q1, .inl (cI, 8, .inl (fun _ => 0))), (q2, .inl (cI, 8, .inl (fun _ => 0))), (q3, .inl (cI, 8, .inl (fun _ => 0))), (q4, .inl (cI, 8, .inl (fun _ => 0)))]) := hD1
  replace hS := hS1
  clear hP1 hD1 hS1
  refine W.widen (k := 4) (n := 32) (Nat.le_of_ble_eq_true rfl) (Nat.le_of_ble_eq_true rfl) ?_
  refine va_putF (D := D) (ci := 5) (v := .ref q4) (ty := .array .int) (C := RX5) (T := TX5) (N := 11) hx hb hts hi5 tyX5 tyX5_ok nmX5 hown hE.1 hP hD hS 0 rfl rfl 3 (by decide) hw7 (fun _ h9 => h9) rfl hin rfl (by decide +kernel) rfl rfl (Nat.le_of_ble_eq_true rfl) dX5_init_33 (fun H locs hP1 hD1 hS1 => ?_)
  replace hP : va_P D vwCl ([(h0, .inr (5, [.ref q1, .ref q2, .ref q3, .ref q4, .null, .null, .null, .null, .null, .int 0, .int 0])), (q1, .inl (cI, 8, .inl (fun _ => 0))), (q2, .inl (cI, 8, .inl (fun _ => 0))), (q3, .inl (cI, 8, .inl (fun _ => 0))), (q4, .inl (cI, 8, .inl (fun _ => 0)))]) H := hP1
  replace hD : va_D A ([(h0, .inr (5, [.ref q1, .ref q2, .ref q3, .ref q4, .null, .null, .null, .null, .null, .int 0, .int 0])), (q1, .inl (cI, 8, .inl (fun _ => 0))), (q2, .inl (cI, 8, .inl (fun _ => 0))), (q3, .inl (cI, 8, .inl (fun _ => 0))), (q4, .inl (cI, 8, .inl (fun _ => 0)))]) := hD1
  replace hS := hS1
  clear hP1 hD1 hS1
  refine lv_aload_n hx hb dX5_init_36 rfl (lv_at hl 0 rfl) ?_
  refine lv_bipush (v := 8) hx hb dX5_init_37 (by decide) ?_
  refine q_newi (N := 8) hx hb hw3 hE hP hD hS hA (by decide) (by decide +kernel) (by decide +kernel) (Nat.le_of_ble_eq_true rfl) (Nat.le_of_ble_eq_true rfl) dX5_init_39 (fun q5 H hP1 hD1 hS1 => ?_)
  replace hP : va_P D vwCl ([(h0, .inr (5, [.ref q1, .ref q2, .ref q3, .ref q4, .null, .null, .null, .null, .null, .int 0, .int 0])), (q1, .inl (cI, 8, .inl (fun _ => 0))), (q2, .inl (cI, 8, .inl (fun _ => 0))), (q3, .inl (cI, 8, .inl (fun _ => 0))), (q4, .inl (cI, 8, .inl (fun _ => 0))), (q5, .inl (cI, 8, .inl (fun _ => 0)))]) H := hP1
  replace hD : va_D A ([(h0, .inr (5, [.ref q1, .ref q2, .ref q3, .ref q4, .null, .null, .null, .null, .null, .int 0, .int 0])), (q1, .inl (cI, 8, .inl (fun _ => 0))), (q2, .inl (cI, 8, .inl (fun _ => 0))), (q3, .inl (cI, 8, .inl (fun _ => 0))), (q4, .inl (cI, 8, .inl (fun _ => 0))), (q5, .inl (cI, 8, .inl (fun _ => 0)))]) := hD1
  replace hS := hS1
  clear hP1 hD1 hS1
  refine W.widen (k := 5) (n := 40) (Nat.le_of_ble_eq_true rfl) (Nat.le_of_ble_eq_true rfl) ?_
  refine va_putF (D := D) (ci := 5) (v := .ref q5) (ty := .array .int) (C := RX5) (T := TX5) (N := 11) hx hb hts hi5 tyX5 tyX5_ok nmX5 hown hE.1 hP hD hS 0 rfl rfl 4 (by decide) hw8 (fun _ h9 => h9) rfl hin rfl (by decide +kernel) rfl rfl (Nat.le_of_ble_eq_true rfl) dX5_init_41 (fun H locs hP1 hD1 hS1 => ?_)
  replace hP : va_P D vwCl ([(h0, .inr (5, [.ref q1, .ref q2, .ref q3, .ref q4, .ref q5, .null, .null, .null, .null, .int 0, .int 0])), (q1, .inl (cI, 8, .inl (fun _ => 0))), (q2, .inl (cI, 8, .inl (fun _ => 0))), (q3, .inl (cI, 8, .inl (fun _ => 0))), (q4, .inl (cI, 8, .inl (fun _ => 0))), (q5, .inl (cI, 8, .inl (fun _ => 0)))]) H := hP1
  replace hD : va_D A ([(h0, .inr (5, [.ref q1, .ref q2, .ref q3, .ref q4, .ref q5, .null, .null, .null, .null, .int 0, .int 0])), (q1, .inl (cI, 8, .inl (fun _ => 0))), (q2, .inl (cI, 8, .inl (fun _ => 0))), (q3, .inl (cI, 8, .inl (fun _ => 0))), (q4, .inl (cI, 8, .inl (fun _ => 0))), (q5, .inl (cI, 8, .inl (fun _ => 0)))]) := hD1
  replace hS := hS1
  clear hP1 hD1 hS1
  refine lv_aload_n hx hb dX5_init_44 rfl (lv_at hl 0 rfl) ?_
  refine lv_iconst (v := 4) hx hb dX5_init_45 (by decide) ?_
  refine q_newi (N := 4) hx hb hw3 hE hP hD hS hA (by decide) (by decide +kernel) (by decide +kernel) (Nat.le_of_ble_eq_true rfl) (Nat.le_of_ble_eq_true rfl) dX5_init_46 (fun q6 H hP1 hD1 hS1 => ?_)
  replace hP : va_P D vwCl ([(h0, .inr (5, [.ref q1, .ref q2, .ref q3, .ref q4, .ref q5, .null, .null, .null, .null, .int 0, .int 0])), (q1, .inl (cI, 8, .inl (fun _ => 0))), (q2, .inl (cI, 8, .inl (fun _ => 0))), (q3, .inl (cI, 8, .inl (fun _ => 0))), (q4, .inl (cI, 8, .inl (fun _ => 0))), (q5, .inl (cI, 8, .inl (fun _ => 0))), (q6, .inl (cI, 4, .inl (fun _ => 0)))]) H := hP1
  replace hD : va_D A ([(h0, .inr (5, [.ref q1, .ref q2, .ref q3, .ref q4, .ref q5, .null, .null, .null, .null, .int 0, .int 0])), (q1, .inl (cI, 8, .inl (fun _ => 0))), (q2, .inl (cI, 8, .inl (fun _ => 0))), (q3, .inl (cI, 8, .inl (fun _ => 0))), (q4, .inl (cI, 8, .inl (fun _ => 0))), (q5, .inl (cI, 8, .inl (fun _ => 0))), (q6, .inl (cI, 4, .inl (fun _ => 0)))]) := hD1
  replace hS := hS1
  clear hP1 hD1 hS1
  refine W.widen (k := 6) (n := 44) (Nat.le_of_ble_eq_true rfl) (Nat.le_of_ble_eq_true rfl) ?_
  refine va_putF (D := D) (ci := 5) (v := .ref q6) (ty := .array .int) (C := RX5) (T := TX5) (N := 11) hx hb hts hi5 tyX5 tyX5_ok nmX5 hown hE.1 hP hD hS 0 rfl rfl 5 (by decide) hw9 (fun _ h9 => h9) rfl hin rfl (by decide +kernel) rfl rfl (Nat.le_of_ble_eq_true rfl) dX5_init_48 (fun H locs hP1 hD1 hS1 => ?_)
  replace hP : va_P D vwCl ([(h0, .inr (5, [.ref q1, .ref q2, .ref q3, .ref q4, .ref q5, .ref q6, .null, .null, .null, .int 0, .int 0])), (q1, .inl (cI, 8, .inl (fun _ => 0))), (q2, .inl (cI, 8, .inl (fun _ => 0))), (q3, .inl (cI, 8, .inl (fun _ => 0))), (q4, .inl (cI, 8, .inl (fun _ => 0))), (q5, .inl (cI, 8, .inl (fun _ => 0))), (q6, .inl (cI, 4, .inl (fun _ => 0)))]) H := hP1
  replace hD : va_D A ([(h0, .inr (5, [.ref q1, .ref q2, .ref q3, .ref q4, .ref q5, .ref q6, .null, .null, .null, .int 0, .int 0])), (q1, .inl (cI, 8, .inl (fun _ => 0))), (q2, .inl (cI, 8, .inl (fun _ => 0))), (q3, .inl (cI, 8, .inl (fun _ => 0))), (q4, .inl (cI, 8, .inl (fun _ => 0))), (q5, .inl (cI, 8, .inl (fun _ => 0))), (q6, .inl (cI, 4, .inl (fun _ => 0)))]) := hD1
  replace hS := hS1
  clear hP1 hD1 hS1
  refine lv_aload_n hx hb dX5_init_51 rfl (lv_at hl 0 rfl) ?_
  refine lv_iconst (v := 4) hx hb dX5_init_52 (by decide) ?_
  refine q_newi (N := 4) hx hb hw3 hE hP hD hS hA (by decide) (by decide +kernel) (by decide +kernel) (Nat.le_of_ble_eq_true rfl) (Nat.le_of_ble_eq_true rfl) dX5_init_53 (fun q7 H hP1 hD1 hS1 => ?_)
  replace hP : va_P D vwCl ([(h0, .inr (5, [.ref q1, .ref q2, .ref q3, .ref q4, .ref q5, .ref q6, .null, .null, .null, .int 0, .int 0])), (q1, .inl (cI, 8, .inl (fun _ => 0))), (q2, .inl (cI, 8, .inl (fun _ => 0))), (q3, .inl (cI, 8, .inl (fun _ => 0))), (q4, .inl (cI, 8, .inl (fun _ => 0))), (q5, .inl (cI, 8, .inl (fun _ => 0))), (q6, .inl (cI, 4, .inl (fun _ => 0))), (q7, .inl (cI, 4, .inl (fun _ => 0)))]) H := hP1
  replace hD : va_D A ([(h0, .inr (5, [.ref q1, .ref q2, .ref q3, .ref q4, .ref q5, .ref q6, .null, .null, .null, .int 0, .int 0])), (q1, .inl (cI, 8, .inl (fun _ => 0))), (q2, .inl (cI, 8, .inl (fun _ => 0))), (q3, .inl (cI, 8, .inl (fun _ => 0))), (q4, .inl (cI, 8, .inl (fun _ => 0))), (q5, .inl (cI, 8, .inl (fun _ => 0))), (q6, .inl (cI, 4, .inl (fun _ => 0))), (q7, .inl (cI, 4, .inl (fun _ => 0)))]) := hD1
  replace hS := hS1
  clear hP1 hD1 hS1
  refine W.widen (k := 7) (n := 48) (Nat.le_of_ble_eq_true rfl) (Nat.le_of_ble_eq_true rfl) ?_
  refine va_putF (D := D) (ci := 5) (v := .ref q7) (ty := .array .int) (C := RX5) (T := TX5) (N := 11) hx hb hts hi5 tyX5 tyX5_ok nmX5 hown hE.1 hP hD hS 0 rfl rfl 6 (by decide) hw10 (fun _ h9 => h9) rfl hin rfl (by decide +kernel) rfl rfl (Nat.le_of_ble_eq_true rfl) dX5_init_55 (fun H locs hP1 hD1 hS1 => ?_)
  replace hP : va_P D vwCl ([(h0, .inr (5, [.ref q1, .ref q2, .ref q3, .ref q4, .ref q5, .ref q6, .ref q7, .null, .null, .int 0, .int 0])), (q1, .inl (cI, 8, .inl (fun _ => 0))), (q2, .inl (cI, 8, .inl (fun _ => 0))), (q3, .inl (cI, 8, .inl (fun _ => 0))), (q4, .inl (cI, 8, .inl (fun _ => 0))), (q5, .inl (cI, 8, .inl (fun _ => 0))), (q6, .inl (cI, 4, .inl (fun _ => 0))), (q7, .inl (cI, 4, .inl (fun _ => 0)))]) H := hP1
  replace hD : va_D A ([(h0, .inr (5, [.ref q1, .ref q2, .ref q3, .ref q4, .ref q5, .ref q6, .ref q7, .null, .null, .int 0, .int 0])), (q1, .inl (cI, 8, .inl (fun _ => 0))), (q2, .inl (cI, 8, .inl (fun _ => 0))), (q3, .inl (cI, 8, .inl (fun _ => 0))), (q4, .inl (cI, 8, .inl (fun _ => 0))), (q5, .inl (cI, 8, .inl (fun _ => 0))), (q6, .inl (cI, 4, .inl (fun _ => 0))), (q7, .inl (cI, 4, .inl (fun _ => 0)))]) := hD1
  replace hS := hS1
  clear hP1 hD1 hS1
  refine lv_aload_n hx hb dX5_init_58 rfl (lv_at hl 0 rfl) ?_
  refine lv_iconst (v := 4) hx hb dX5_init_59 (by decide) ?_
  refine q_newi (N := 4) hx hb hw3 hE hP hD hS hA (by decide) (by decide +kernel) (by decide +kernel) (Nat.le_of_ble_eq_true rfl) (Nat.le_of_ble_eq_true rfl) dX5_init_60 (fun q8 H hP1 hD1 hS1 => ?_)
  replace hP : va_P D vwCl ([(h0, .inr (5, [.ref q1, .ref q2, .ref q3, .ref q4, .ref q5, .ref q6, .ref q7, .null, .null, .int 0, .int 0])), (q1, .inl (cI, 8, .inl (fun _ => 0))), (q2, .inl (cI, 8, .inl (fun _ => 0))), (q3, .inl (cI, 8, .inl (fun _ => 0))), (q4, .inl (cI, 8, .inl (fun _ => 0))), (q5, .inl (cI, 8, .inl (fun _ => 0))), (q6, .inl (cI, 4, .inl (fun _ => 0))), (q7, .inl (cI, 4, .inl (fun _ => 0))), (q8, .inl (cI, 4, .inl (fun _ => 0)))]) H := hP1
  replace hD : va_D A ([(h0, .inr (5, [.ref q1, .ref q2, .ref q3, .ref q4, .ref q5, .ref q6, .ref q7, .null, .null, .int 0, .int 0])), (q1, .inl (cI, 8, .inl (fun _ => 0))), (q2, .inl (cI, 8, .inl (fun _ => 0))), (q3, .inl (cI, 8, .inl (fun _ => 0))), (q4, .inl (cI, 8, .inl (fun _ => 0))), (q5, .inl (cI, 8, .inl (fun _ => 0))), (q6, .inl (cI, 4, .inl (fun _ => 0))), (q7, .inl (cI, 4, .inl (fun _ => 0))), (q8, .inl (cI, 4, .inl (fun _ => 0)))]) := hD1
  replace hS := hS1
  clear hP1 hD1 hS1
  refine W.widen (k := 8) (n := 52) (Nat.le_of_ble_eq_true rfl) (Nat.le_of_ble_eq_true rfl) ?_
  refine va_putF (D := D) (ci := 5) (v := .ref q8) (ty := .array .int) (C := RX5) (T := TX5) (N := 11) hx hb hts hi5 tyX5 tyX5_ok nmX5 hown hE.1 hP hD hS 0 rfl rfl 7 (by decide) hw11 (fun _ h9 => h9) rfl hin rfl (by decide +kernel) rfl rfl (Nat.le_of_ble_eq_true rfl) dX5_init_62 (fun H locs hP1 hD1 hS1 => ?_)
  replace hP : va_P D vwCl ([(h0, .inr (5, [.ref q1, .ref q2, .ref q3, .ref q4, .ref q5, .ref q6, .ref q7, .ref q8, .null, .int 0, .int 0])), (q1, .inl (cI, 8, .inl (fun _ => 0))), (q2, .inl (cI, 8, .inl (fun _ => 0))), (q3, .inl (cI, 8, .inl (fun _ => 0))), (q4, .inl (cI, 8, .inl (fun _ => 0))), (q5, .inl (cI, 8, .inl (fun _ => 0))), (q6, .inl (cI, 4, .inl (fun _ => 0))), (q7, .inl (cI, 4, .inl (fun _ => 0))), (q8, .inl (cI, 4, .inl (fun _ => 0)))]) H := hP1
  replace hD : va_D A ([(h0, .inr (5, [.ref q1, .ref q2, .ref q3, .ref q4, .ref q5, .ref q6, .ref q7, .ref q8, .null, .int 0, .int 0])), (q1, .inl (cI, 8, .inl (fun _ => 0))), (q2, .inl (cI, 8, .inl (fun _ => 0))), (q3, .inl (cI, 8, .inl (fun _ => 0))), (q4, .inl (cI, 8, .inl (fun _ => 0))), (q5, .inl (cI, 8, .inl (fun _ => 0))), (q6, .inl (cI, 4, .inl (fun _ => 0))), (q7, .inl (cI, 4, .inl (fun _ => 0))), (q8, .inl (cI, 4, .inl (fun _ => 0)))]) := hD1
  replace hS := hS1
  clear hP1 hD1 hS1
  refine lv_aload_n hx hb dX5_init_65 rfl (lv_at hl 0 rfl) ?_
  refine lv_iconst (v := 4) hx hb dX5_init_66 (by decide) ?_
  refine q_newz (N := 4) hx hb hw12 hE hP hD hS hA (by decide) (by decide +kernel) (by decide +kernel) (Nat.le_of_ble_eq_true rfl) (Nat.le_of_ble_eq_true rfl) dX5_init_67 (fun q9 H hP1 hD1 hS1 => ?_)
  replace hP : va_P D vwCl ([(h0, .inr (5, [.ref q1, .ref q2, .ref q3, .ref q4, .ref q5, .ref q6, .ref q7, .ref q8, .null, .int 0, .int 0])), (q1, .inl (cI, 8, .inl (fun _ => 0))), (q2, .inl (cI, 8, .inl (fun _ => 0))), (q3, .inl (cI, 8, .inl (fun _ => 0))), (q4, .inl (cI, 8, .inl (fun _ => 0))), (q5, .inl (cI, 8, .inl (fun _ => 0))), (q6, .inl (cI, 4, .inl (fun _ => 0))), (q7, .inl (cI, 4, .inl (fun _ => 0))), (q8, .inl (cI, 4, .inl (fun _ => 0))), (q9, .inl (cZ, 4, .inl (fun _ => 0)))]) H := hP1
  replace hD : va_D A ([(h0, .inr (5, [.ref q1, .ref q2, .ref q3, .ref q4, .ref q5, .ref q6, .ref q7, .ref q8, .null, .int 0, .int 0])), (q1, .inl (cI, 8, .inl (fun _ => 0))), (q2, .inl (cI, 8, .inl (fun _ => 0))), (q3, .inl (cI, 8, .inl (fun _ => 0))), (q4, .inl (cI, 8, .inl (fun _ => 0))), (q5, .inl (cI, 8, .inl (fun _ => 0))), (q6, .inl (cI, 4, .inl (fun _ => 0))), (q7, .inl (cI, 4, .inl (fun _ => 0))), (q8, .inl (cI, 4, .inl (fun _ => 0))), (q9, .inl (cZ, 4, .inl (fun _ => 0)))]) := hD1
  replace hS := hS1
  clear hP1 hD1 hS1
  refine W.widen (k := 9) (n := 56) (Nat.le_of_ble_eq_true rfl) (Nat.le_of_ble_eq_true rfl) ?_
  refine va_putF (D := D) (ci := 5) (v := .ref q9) (ty := .array .boolean) (C := RX5) (T := TX5) (N := 11) hx hb hts hi5 tyX5 tyX5_ok nmX5 hown hE.1 hP hD hS 0 rfl rfl 8 (by decide) hw13 (fun _ h9 => h9) rfl hin rfl (by decide +kernel) rfl rfl (Nat.le_of_ble_eq_true rfl) dX5_init_69 (fun H locs hP1 hD1 hS1 => ?_)
  replace hP : va_P D vwCl ([(h0, .inr (5, [.ref q1, .ref q2, .ref q3, .ref q4, .ref q5, .ref q6, .ref q7, .ref q8, .ref q9, .int 0, .int 0])), (q1, .inl (cI, 8, .inl (fun _ => 0))), (q2, .inl (cI, 8, .inl (fun _ => 0))), (q3, .inl (cI, 8, .inl (fun _ => 0))), (q4, .inl (cI, 8, .inl (fun _ => 0))), (q5, .inl (cI, 8, .inl (fun _ => 0))), (q6, .inl (cI, 4, .inl (fun _ => 0))), (q7, .inl (cI, 4, .inl (fun _ => 0))), (q8, .inl (cI, 4, .inl (fun _ => 0))), (q9, .inl (cZ, 4, .inl (fun _ => 0)))]) H := hP1
  replace hD : va_D A ([(h0, .inr (5, [.ref q1, .ref q2, .ref q3, .ref q4, .ref q5, .ref q6, .ref q7, .ref q8, .ref q9, .int 0, .int 0])), (q1, .inl (cI, 8, .inl (fun _ => 0))), (q2, .inl (cI, 8, .inl (fun _ => 0))), (q3, .inl (cI, 8, .inl (fun _ => 0))), (q4, .inl (cI, 8, .inl (fun _ => 0))), (q5, .inl (cI, 8, .inl (fun _ => 0))), (q6, .inl (cI, 4, .inl (fun _ => 0))), (q7, .inl (cI, 4, .inl (fun _ => 0))), (q8, .inl (cI, 4, .inl (fun _ => 0))), (q9, .inl (cZ, 4, .inl (fun _ => 0)))]) := hD1
  replace hS := hS1
  clear hP1 hD1 hS1
  refine lv_aload_n hx hb dX5_init_72 rfl (lv_at hl 0 rfl) ?_
  refine lv_iconst (v := 1) hx hb dX5_init_73 (by decide) ?_
  refine va_put (D := D) (ci := 5) (v := .int 1) (ty := .int) (C := RX5) (T := TX5) (N := 11) hx hb hts hi5 tyX5 tyX5_ok nmX5 hown hE.1 hP hD hS 0 rfl rfl 9 (by decide) hw14 (fun _ h9 => h9) rfl (by decide +kernel) rfl rfl (Nat.le_of_ble_eq_true rfl) dX5_init_74 (fun H locs hP1 hD1 hS1 => ?_)
  replace hP : va_P D vwCl ([(h0, .inr (5, [.ref q1, .ref q2, .ref q3, .ref q4, .ref q5, .ref q6, .ref q7, .ref q8, .ref q9, .int 1, .int 0])), (q1, .inl (cI, 8, .inl (fun _ => 0))), (q2, .inl (cI, 8, .inl (fun _ => 0))), (q3, .inl (cI, 8, .inl (fun _ => 0))), (q4, .inl (cI, 8, .inl (fun _ => 0))), (q5, .inl (cI, 8, .inl (fun _ => 0))), (q6, .inl (cI, 4, .inl (fun _ => 0))), (q7, .inl (cI, 4, .inl (fun _ => 0))), (q8, .inl (cI, 4, .inl (fun _ => 0))), (q9, .inl (cZ, 4, .inl (fun _ => 0)))]) H := hP1
  replace hD : va_D A ([(h0, .inr (5, [.ref q1, .ref q2, .ref q3, .ref q4, .ref q5, .ref q6, .ref q7, .ref q8, .ref q9, .int 1, .int 0])), (q1, .inl (cI, 8, .inl (fun _ => 0))), (q2, .inl (cI, 8, .inl (fun _ => 0))), (q3, .inl (cI, 8, .inl (fun _ => 0))), (q4, .inl (cI, 8, .inl (fun _ => 0))), (q5, .inl (cI, 8, .inl (fun _ => 0))), (q6, .inl (cI, 4, .inl (fun _ => 0))), (q7, .inl (cI, 4, .inl (fun _ => 0))), (q8, .inl (cI, 4, .inl (fun _ => 0))), (q9, .inl (cZ, 4, .inl (fun _ => 0)))]) := hD1
  replace hS := hS1
  clear hP1 hD1 hS1
  refine lv_aload_n hx hb dX5_init_77 rfl (lv_at hl 0 rfl) ?_
  refine lv_iconst (v := 0) hx hb dX5_init_78 (by decide) ?_
  refine va_put (D := D) (ci := 5) (v := .int 0) (ty := .int) (C := RX5) (T := TX5) (N := 11) hx hb hts hi5 tyX5 tyX5_ok nmX5 hown hE.1 hP hD hS 0 rfl rfl 10 (by decide) hw15 (fun _ h9 => h9) rfl (by decide +kernel) rfl rfl (Nat.le_of_ble_eq_true rfl) dX5_init_79 (fun H locs hP1 hD1 hS1 => ?_)
  replace hP : va_P D vwCl ([(h0, .inr (5, [.ref q1, .ref q2, .ref q3, .ref q4, .ref q5, .ref q6, .ref q7, .ref q8, .ref q9, .int 1, .int 0])), (q1, .inl (cI, 8, .inl (fun _ => 0))), (q2, .inl (cI, 8, .inl (fun _ => 0))), (q3, .inl (cI, 8, .inl (fun _ => 0))), (q4, .inl (cI, 8, .inl (fun _ => 0))), (q5, .inl (cI, 8, .inl (fun _ => 0))), (q6, .inl (cI, 4, .inl (fun _ => 0))), (q7, .inl (cI, 4, .inl (fun _ => 0))), (q8, .inl (cI, 4, .inl (fun _ => 0))), (q9, .inl (cZ, 4, .inl (fun _ => 0)))]) H := hP1
  replace hD : va_D A ([(h0, .inr (5, [.ref q1, .ref q2, .ref q3, .ref q4, .ref q5, .ref q6, .ref q7, .ref q8, .ref q9, .int 1, .int 0])), (q1, .inl (cI, 8, .inl (fun _ => 0))), (q2, .inl (cI, 8, .inl (fun _ => 0))), (q3, .inl (cI, 8, .inl (fun _ => 0))), (q4, .inl (cI, 8, .inl (fun _ => 0))), (q5, .inl (cI, 8, .inl (fun _ => 0))), (q6, .inl (cI, 4, .inl (fun _ => 0))), (q7, .inl (cI, 4, .inl (fun _ => 0))), (q8, .inl (cI, 4, .inl (fun _ => 0))), (q9, .inl (cZ, 4, .inl (fun _ => 0)))]) := hD1
  replace hS := hS1
  clear hP1 hD1 hS1
  obtain ⟨T0, eT0⟩ : ∃ z : St, z = (q_su (fun _ _ => 0) 9 0 1) := ⟨_, rfl⟩
  obtain ⟨d, ed0, ed1, ed2, ed3, ed4, ed5, ed6, ed7, ed8, ed9⟩ : ∃ d : Nat → Nat, d 0 = h0 ∧ d 1 = q1 ∧ d 2 = q2 ∧ d 3 = q3 ∧ d 4 = q4 ∧ d 5 = q5 ∧ d 6 = q6 ∧ d 7 = q7 ∧ d 8 = q8 ∧ d 9 = q9 := ⟨(fun j : Nat => if j = 0 then h0 else if j = 1 then q1 else if j = 2 then q2 else if j = 3 then q3 else if j = 4 then q4 else if j = 5 then q5 else if j = 6 then q6 else if j = 7 then q7 else if j = 8 then q8 else if j = 9 then q9 else h0), rfl, rfl, rfl, rfl, rfl, rfl, rfl, rfl, rfl, rfl⟩
  replace hP : va_P D vwCl (wg5 cI cZ d T0) H := by
    rw [eT0]
    simp only [wg5, ed0, ed1, ed2, ed3, ed4, ed5, ed6, ed7, ed8, ed9]
    exact hP
  replace hD : va_D A (wg5 cI cZ d T0) := by
    rw [eT0]
    simp only [wg5, ed0, ed1, ed2, ed3, ed4, ed5, ed6, ed7, ed8, ed9]
    exact hD
  replace hl : lv_has ls 2 [(0, .ref (d 0))] := by rw [ed0]; exact hl
  refine lv_iconst (v := 0) hx hb dX5_init_82 (by decide) ?_
  refine lv_istore_n (lv' := [(1, .int 0), (0, .ref (d 0))]) hx hb dX5_init_83 rfl hl (by decide) rfl (fun ls hl => ?_)
  refine lv_iload_n hx hb dX5_init_84 rfl (lv_at hl 0 rfl) ?_
  refine lv_bipush (v := 8) hx hb dX5_init_85 (by decide) ?_
  refine lv_icmp_ge (tgt := 104) hx hb dX5_init_87 (by decide) (fun c1 => absurd c1 (by decide)) (fun _ => ?_)
  refine lv_aload_n hx hb dX5_init_90 rfl (lv_at hl 1 rfl) ?_
  refine va_get (D := D) (ci := 5) (v := .ref (d 3)) (C := RX5) (T := TX5) (N := 11) hx hb hts hi5 hown hE.1 hP 0 rfl rfl 2 (by decide) hw6 (fun _ h9 => h9) rfl dX5_init_91 ?_
  refine lv_iload_n hx hb dX5_init_94 rfl (lv_at hl 0 rfl) ?_
  refine lv_bipush (v := (-6)) hx hb dX5_init_95 (by decide) ?_
  refine va_iast hx hb hE.1 hP hD hS 3 0 rfl rfl (q_in (by decide +kernel)) dX5_init_97 (fun H locs hP1 hD1 hS1 => ?_)
  replace hP : va_P D vwCl (wg5 cI cZ d (q_su T0 2 ((0 : Int32).toNatClampNeg) (-6))) H := hP1
  replace hD : va_D A (wg5 cI cZ d (q_su T0 2 ((0 : Int32).toNatClampNeg) (-6))) := hD1
  replace hS := hS1
  clear hP1 hD1 hS1
  obtain ⟨T1, eT1⟩ : ∃ z : St, z = q_su T0 2 ((0 : Int32).toNatClampNeg) (-6) := ⟨_, rfl⟩
  rw [← eT1] at hP hD
  refine lv_iinc (v := 1) (lv' := [(1, .int 1), (0, .ref (d 0))]) hx hb dX5_init_98 hl (k := 0) rfl (by decide) (by decide) rfl (fun ls hl => ?_)
  refine lv_goto (tgt := 84) hx hb dX5_init_101 (by decide) ?_
  refine lv_iload_n hx hb dX5_init_84 rfl (lv_at hl 0 rfl) ?_
  refine lv_bipush (v := 8) hx hb dX5_init_85 (by decide) ?_
  refine lv_icmp_ge (tgt := 104) hx hb dX5_init_87 (by decide) (fun c1 => absurd c1 (by decide)) (fun _ => ?_)
  refine lv_aload_n hx hb dX5_init_90 rfl (lv_at hl 1 rfl) ?_
  refine va_get (D := D) (ci := 5) (v := .ref (d 3)) (C := RX5) (T := TX5) (N := 11) hx hb hts hi5 hown hE.1 hP 0 rfl rfl 2 (by decide) hw6 (fun _ h9 => h9) rfl dX5_init_91 ?_
  refine lv_iload_n hx hb dX5_init_94 rfl (lv_at hl 0 rfl) ?_
  refine lv_bipush (v := (-6)) hx hb dX5_init_95 (by decide) ?_
  refine va_iast hx hb hE.1 hP hD hS 3 0 rfl rfl (q_in (by decide +kernel)) dX5_init_97 (fun H locs hP1 hD1 hS1 => ?_)
  replace hP : va_P D vwCl (wg5 cI cZ d (q_su T1 2 ((1 : Int32).toNatClampNeg) (-6))) H := hP1
  replace hD : va_D A (wg5 cI cZ d (q_su T1 2 ((1 : Int32).toNatClampNeg) (-6))) := hD1
  replace hS := hS1
  clear hP1 hD1 hS1
  obtain ⟨T2, eT2⟩ : ∃ z : St, z = q_su T1 2 ((1 : Int32).toNatClampNeg) (-6) := ⟨_, rfl⟩
  rw [← eT2] at hP hD
  refine lv_iinc (v := 2) (lv' := [(1, .int 2), (0, .ref (d 0))]) hx hb dX5_init_98 hl (k := 0) rfl (by decide) (by decide) rfl (fun ls hl => ?_)
  refine lv_goto (tgt := 84) hx hb dX5_init_101 (by decide) ?_
  refine lv_iload_n hx hb dX5_init_84 rfl (lv_at hl 0 rfl) ?_
  refine lv_bipush (v := 8) hx hb dX5_init_85 (by decide) ?_
  refine lv_icmp_ge (tgt := 104) hx hb dX5_init_87 (by decide) (fun c1 => absurd c1 (by decide)) (fun _ => ?_)
  refine lv_aload_n hx hb dX5_init_90 rfl (lv_at hl 1 rfl) ?_
  refine va_get (D := D) (ci := 5) (v := .ref (d 3)) (C := RX5) (T := TX5) (N := 11) hx hb hts hi5 hown hE.1 hP 0 rfl rfl 2 (by decide) hw6 (fun _ h9 => h9) rfl dX5_init_91 ?_
  refine lv_iload_n hx hb dX5_init_94 rfl (lv_at hl 0 rfl) ?_
  refine lv_bipush (v := (-6)) hx hb dX5_init_95 (by decide) ?_
  refine va_iast hx hb hE.1 hP hD hS 3 0 rfl rfl (q_in (by decide +kernel)) dX5_init_97 (fun H locs hP1 hD1 hS1 => ?_)
  replace hP : va_P D vwCl (wg5 cI cZ d (q_su T2 2 ((2 : Int32).toNatClampNeg) (-6))) H := hP1
  replace hD : va_D A (wg5 cI cZ d (q_su T2 2 ((2 : Int32).toNatClampNeg) (-6))) := hD1
  replace hS := hS1
  clear hP1 hD1 hS1
  obtain ⟨T3, eT3⟩ : ∃ z : St, z = q_su T2 2 ((2 : Int32).toNatClampNeg) (-6) := ⟨_, rfl⟩
  rw [← eT3] at hP hD
  refine lv_iinc (v := 3) (lv' := [(1, .int 3), (0, .ref (d 0))]) hx hb dX5_init_98 hl (k := 0) rfl (by decide) (by decide) rfl (fun ls hl => ?_)
  refine lv_goto (tgt := 84) hx hb dX5_init_101 (by decide) ?_
  refine lv_iload_n hx hb dX5_init_84 rfl (lv_at hl 0 rfl) ?_
  refine lv_bipush (v := 8) hx hb dX5_init_85 (by decide) ?_
  refine lv_icmp_ge (tgt := 104) hx hb dX5_init_87 (by decide) (fun c1 => absurd c1 (by decide)) (fun _ => ?_)
  refine lv_aload_n hx hb dX5_init_90 rfl (lv_at hl 1 rfl) ?_
  refine va_get (D := D) (ci := 5) (v := .ref (d 3)) (C := RX5) (T := TX5) (N := 11) hx hb hts hi5 hown hE.1 hP 0 rfl rfl 2 (by decide) hw6 (fun _ h9 => h9) rfl dX5_init_91 ?_
  refine lv_iload_n hx hb dX5_init_94 rfl (lv_at hl 0 rfl) ?_
  refine lv_bipush (v := (-6)) hx hb dX5_init_95 (by decide) ?_
  refine va_iast hx hb hE.1 hP hD hS 3 0 rfl rfl (q_in (by decide +kernel)) dX5_init_97 (fun H locs hP1 hD1 hS1 => ?_)
  replace hP : va_P D vwCl (wg5 cI cZ d (q_su T3 2 ((3 : Int32).toNatClampNeg) (-6))) H := hP1
  replace hD : va_D A (wg5 cI cZ d (q_su T3 2 ((3 : Int32).toNatClampNeg) (-6))) := hD1
  replace hS := hS1
  clear hP1 hD1 hS1
  obtain ⟨T4, eT4⟩ : ∃ z : St, z = q_su T3 2 ((3 : Int32).toNatClampNeg) (-6) := ⟨_, rfl⟩
  rw [← eT4] at hP hD
  refine lv_iinc (v := 4) (lv' := [(1, .int 4), (0, .ref (d 0))]) hx hb dX5_init_98 hl (k := 0) rfl (by decide) (by decide) rfl (fun ls hl => ?_)
  refine lv_goto (tgt := 84) hx hb dX5_init_101 (by decide) ?_
  refine lv_iload_n hx hb dX5_init_84 rfl (lv_at hl 0 rfl) ?_
  refine lv_bipush (v := 8) hx hb dX5_init_85 (by decide) ?_
  refine lv_icmp_ge (tgt := 104) hx hb dX5_init_87 (by decide) (fun c1 => absurd c1 (by decide)) (fun _ => ?_)
  refine lv_aload_n hx hb dX5_init_90 rfl (lv_at hl 1 rfl) ?_
  refine va_get (D := D) (ci := 5) (v := .ref (d 3)) (C := RX5) (T := TX5) (N := 11) hx hb hts hi5 hown hE.1 hP 0 rfl rfl 2 (by decide) hw6 (fun _ h9 => h9) rfl dX5_init_91 ?_
  refine lv_iload_n hx hb dX5_init_94 rfl (lv_at hl 0 rfl) ?_
  refine lv_bipush (v := (-6)) hx hb dX5_init_95 (by decide) ?_
  refine va_iast hx hb hE.1 hP hD hS 3 0 rfl rfl (q_in (by decide +kernel)) dX5_init_97 (fun H locs hP1 hD1 hS1 => ?_)
  replace hP : va_P D vwCl (wg5 cI cZ d (q_su T4 2 ((4 : Int32).toNatClampNeg) (-6))) H := hP1
  replace hD : va_D A (wg5 cI cZ d (q_su T4 2 ((4 : Int32).toNatClampNeg) (-6))) := hD1
  replace hS := hS1
  clear hP1 hD1 hS1
  obtain ⟨T5, eT5⟩ : ∃ z : St, z = q_su T4 2 ((4 : Int32).toNatClampNeg) (-6) := ⟨_, rfl⟩
  rw [← eT5] at hP hD
  refine lv_iinc (v := 5) (lv' := [(1, .int 5), (0, .ref (d 0))]) hx hb dX5_init_98 hl (k := 0) rfl (by decide) (by decide) rfl (fun ls hl => ?_)
  refine lv_goto (tgt := 84) hx hb dX5_init_101 (by decide) ?_
  refine lv_iload_n hx hb dX5_init_84 rfl (lv_at hl 0 rfl) ?_
  refine lv_bipush (v := 8) hx hb dX5_init_85 (by decide) ?_
  refine lv_icmp_ge (tgt := 104) hx hb dX5_init_87 (by decide) (fun c1 => absurd c1 (by decide)) (fun _ => ?_)
  refine lv_aload_n hx hb dX5_init_90 rfl (lv_at hl 1 rfl) ?_
  refine va_get (D := D) (ci := 5) (v := .ref (d 3)) (C := RX5) (T := TX5) (N := 11) hx hb hts hi5 hown hE.1 hP 0 rfl rfl 2 (by decide) hw6 (fun _ h9 => h9) rfl dX5_init_91 ?_
  refine lv_iload_n hx hb dX5_init_94 rfl (lv_at hl 0 rfl) ?_
  refine lv_bipush (v := (-6)) hx hb dX5_init_95 (by decide) ?_
  refine va_iast hx hb hE.1 hP hD hS 3 0 rfl rfl (q_in (by decide +kernel)) dX5_init_97 (fun H locs hP1 hD1 hS1 => ?_)
  replace hP : va_P D vwCl (wg5 cI cZ d (q_su T5 2 ((5 : Int32).toNatClampNeg) (-6))) H := hP1
  replace hD : va_D A (wg5 cI cZ d (q_su T5 2 ((5 : Int32).toNatClampNeg) (-6))) := hD1
  replace hS := hS1
  clear hP1 hD1 hS1
  obtain ⟨T6, eT6⟩ : ∃ z : St, z = q_su T5 2 ((5 : Int32).toNatClampNeg) (-6) := ⟨_, rfl⟩
  rw [← eT6] at hP hD
  refine lv_iinc (v := 6) (lv' := [(1, .int 6), (0, .ref (d 0))]) hx hb dX5_init_98 hl (k := 0) rfl (by decide) (by decide) rfl (fun ls hl => ?_)
  refine lv_goto (tgt := 84) hx hb dX5_init_101 (by decide) ?_
  refine lv_iload_n hx hb dX5_init_84 rfl (lv_at hl 0 rfl) ?_
  refine lv_bipush (v := 8) hx hb dX5_init_85 (by decide) ?_
  refine lv_icmp_ge (tgt := 104) hx hb dX5_init_87 (by decide) (fun c1 => absurd c1 (by decide)) (fun _ => ?_)
  refine lv_aload_n hx hb dX5_init_90 rfl (lv_at hl 1 rfl) ?_
  refine va_get (D := D) (ci := 5) (v := .ref (d 3)) (C := RX5) (T := TX5) (N := 11) hx hb hts hi5 hown hE.1 hP 0 rfl rfl 2 (by decide) hw6 (fun _ h9 => h9) rfl dX5_init_91 ?_
  refine lv_iload_n hx hb dX5_init_94 rfl (lv_at hl 0 rfl) ?_
  refine lv_bipush (v := (-6)) hx hb dX5_init_95 (by decide) ?_
  refine va_iast hx hb hE.1 hP hD hS 3 0 rfl rfl (q_in (by decide +kernel)) dX5_init_97 (fun H locs hP1 hD1 hS1 => ?_)
  replace hP : va_P D vwCl (wg5 cI cZ d (q_su T6 2 ((6 : Int32).toNatClampNeg) (-6))) H := hP1
  replace hD : va_D A (wg5 cI cZ d (q_su T6 2 ((6 : Int32).toNatClampNeg) (-6))) := hD1
  replace hS := hS1
  clear hP1 hD1 hS1
  obtain ⟨T7, eT7⟩ : ∃ z : St, z = q_su T6 2 ((6 : Int32).toNatClampNeg) (-6) := ⟨_, rfl⟩
  rw [← eT7] at hP hD
  refine lv_iinc (v := 7) (lv' := [(1, .int 7), (0, .ref (d 0))]) hx hb dX5_init_98 hl (k := 0) rfl (by decide) (by decide) rfl (fun ls hl => ?_)
  refine lv_goto (tgt := 84) hx hb dX5_init_101 (by decide) ?_
  refine lv_iload_n hx hb dX5_init_84 rfl (lv_at hl 0 rfl) ?_
  refine lv_bipush (v := 8) hx hb dX5_init_85 (by decide) ?_
  refine lv_icmp_ge (tgt := 104) hx hb dX5_init_87 (by decide) (fun c1 => absurd c1 (by decide)) (fun _ => ?_)
  refine lv_aload_n hx hb dX5_init_90 rfl (lv_at hl 1 rfl) ?_
  refine va_get (D := D) (ci := 5) (v := .ref (d 3)) (C := RX5) (T := TX5) (N := 11) hx hb hts hi5 hown hE.1 hP 0 rfl rfl 2 (by decide) hw6 (fun _ h9 => h9) rfl dX5_init_91 ?_
  refine lv_iload_n hx hb dX5_init_94 rfl (lv_at hl 0 rfl) ?_
  refine lv_bipush (v := (-6)) hx hb dX5_init_95 (by decide) ?_
  refine va_iast hx hb hE.1 hP hD hS 3 0 rfl rfl (q_in (by decide +kernel)) dX5_init_97 (fun H locs hP1 hD1 hS1 => ?_)
  replace hP : va_P D vwCl (wg5 cI cZ d (q_su T7 2 ((7 : Int32).toNatClampNeg) (-6))) H := hP1
  replace hD : va_D A (wg5 cI cZ d (q_su T7 2 ((7 : Int32).toNatClampNeg) (-6))) := hD1
  replace hS := hS1
  clear hP1 hD1 hS1
  obtain ⟨T8, eT8⟩ : ∃ z : St, z = q_su T7 2 ((7 : Int32).toNatClampNeg) (-6) := ⟨_, rfl⟩
  rw [← eT8] at hP hD
  refine lv_iinc (v := 8) (lv' := [(1, .int 8), (0, .ref (d 0))]) hx hb dX5_init_98 hl (k := 0) rfl (by decide) (by decide) rfl (fun ls hl => ?_)
  refine lv_goto (tgt := 84) hx hb dX5_init_101 (by decide) ?_
  refine lv_iload_n hx hb dX5_init_84 rfl (lv_at hl 0 rfl) ?_
  refine lv_bipush (v := 8) hx hb dX5_init_85 (by decide) ?_
  refine lv_icmp_ge (tgt := 104) hx hb dX5_init_87 (by decide) (fun _ => ?_) (fun c1 => absurd (by decide) c1)
  refine lv_iconst (v := 0) hx hb dX5_init_104 (by decide) ?_
  refine lv_istore_n (lv' := [(1, .int 0), (0, .ref (d 0))]) hx hb dX5_init_105 rfl hl (by decide) rfl (fun ls hl => ?_)
  refine lv_iload_n hx hb dX5_init_106 rfl (lv_at hl 0 rfl) ?_
  refine lv_iconst (v := 4) hx hb dX5_init_107 (by decide) ?_
  refine lv_icmp_ge (tgt := 126) hx hb dX5_init_108 (by decide) (fun c1 => absurd c1 (by decide)) (fun _ => ?_)
  refine lv_aload_n hx hb dX5_init_111 rfl (lv_at hl 1 rfl) ?_
  refine va_get (D := D) (ci := 5) (v := .ref (d 6)) (C := RX5) (T := TX5) (N := 11) hx hb hts hi5 hown hE.1 hP 0 rfl rfl 5 (by decide) hw9 (fun _ h9 => h9) rfl dX5_init_112 ?_
  refine lv_iload_n hx hb dX5_init_115 rfl (lv_at hl 0 rfl) ?_
  refine lv_iconst (v := 3) hx hb dX5_init_116 (by decide) ?_
  refine lv_iload_n hx hb dX5_init_117 rfl (lv_at hl 0 rfl) ?_
  refine lv_imul hx hb dX5_init_118 ?_
  refine va_iast hx hb hE.1 hP hD hS 6 0 rfl rfl (q_in (by decide +kernel)) dX5_init_119 (fun H locs hP1 hD1 hS1 => ?_)
  replace hP : va_P D vwCl (wg5 cI cZ d (q_su T8 5 ((0 : Int32).toNatClampNeg) (3 * 0))) H := hP1
  replace hD : va_D A (wg5 cI cZ d (q_su T8 5 ((0 : Int32).toNatClampNeg) (3 * 0))) := hD1
  replace hS := hS1
  clear hP1 hD1 hS1
  obtain ⟨T9, eT9⟩ : ∃ z : St, z = q_su T8 5 ((0 : Int32).toNatClampNeg) (3 * 0) := ⟨_, rfl⟩
  rw [← eT9] at hP hD
  refine lv_iinc (v := 1) (lv' := [(1, .int 1), (0, .ref (d 0))]) hx hb dX5_init_120 hl (k := 0) rfl (by decide) (by decide) rfl (fun ls hl => ?_)
  refine lv_goto (tgt := 106) hx hb dX5_init_123 (by decide) ?_
  refine lv_iload_n hx hb dX5_init_106 rfl (lv_at hl 0 rfl) ?_
  refine lv_iconst (v := 4) hx hb dX5_init_107 (by decide) ?_
  refine lv_icmp_ge (tgt := 126) hx hb dX5_init_108 (by decide) (fun c1 => absurd c1 (by decide)) (fun _ => ?_)
  refine lv_aload_n hx hb dX5_init_111 rfl (lv_at hl 1 rfl) ?_
  refine va_get (D := D) (ci := 5) (v := .ref (d 6)) (C := RX5) (T := TX5) (N := 11) hx hb hts hi5 hown hE.1 hP 0 rfl rfl 5 (by decide) hw9 (fun _ h9 => h9) rfl dX5_init_112 ?_
  refine lv_iload_n hx hb dX5_init_115 rfl (lv_at hl 0 rfl) ?_
  refine lv_iconst (v := 3) hx hb dX5_init_116 (by decide) ?_
  refine lv_iload_n hx hb dX5_init_117 rfl (lv_at hl 0 rfl) ?_
  refine lv_imul hx hb dX5_init_118 ?_
  refine va_iast hx hb hE.1 hP hD hS 6 0 rfl rfl (q_in (by decide +kernel)) dX5_init_119 (fun H locs hP1 hD1 hS1 => ?_)
  replace hP : va_P D vwCl (wg5 cI cZ d (q_su T9 5 ((1 : Int32).toNatClampNeg) (3 * 1))) H := hP1
  replace hD : va_D A (wg5 cI cZ d (q_su T9 5 ((1 : Int32).toNatClampNeg) (3 * 1))) := hD1
  replace hS := hS1
  clear hP1 hD1 hS1
  obtain ⟨T10, eT10⟩ : ∃ z : St, z = q_su T9 5 ((1 : Int32).toNatClampNeg) (3 * 1) := ⟨_, rfl⟩
  rw [← eT10] at hP hD
  refine lv_iinc (v := 2) (lv' := [(1, .int 2), (0, .ref (d 0))]) hx hb dX5_init_120 hl (k := 0) rfl (by decide) (by decide) rfl (fun ls hl => ?_)
  refine lv_goto (tgt := 106) hx hb dX5_init_123 (by decide) ?_
  refine lv_iload_n hx hb dX5_init_106 rfl (lv_at hl 0 rfl) ?_
  refine lv_iconst (v := 4) hx hb dX5_init_107 (by decide) ?_
  refine lv_icmp_ge (tgt := 126) hx hb dX5_init_108 (by decide) (fun c1 => absurd c1 (by decide)) (fun _ => ?_)
  refine lv_aload_n hx hb dX5_init_111 rfl (lv_at hl 1 rfl) ?_
  refine va_get (D := D) (ci := 5) (v := .ref (d 6)) (C := RX5) (T := TX5) (N := 11) hx hb hts hi5 hown hE.1 hP 0 rfl rfl 5 (by decide) hw9 (fun _ h9 => h9) rfl dX5_init_112 ?_
  refine lv_iload_n hx hb dX5_init_115 rfl (lv_at hl 0 rfl) ?_
  refine lv_iconst (v := 3) hx hb dX5_init_116 (by decide) ?_
  refine lv_iload_n hx hb dX5_init_117 rfl (lv_at hl 0 rfl) ?_
  refine lv_imul hx hb dX5_init_118 ?_
  refine va_iast hx hb hE.1 hP hD hS 6 0 rfl rfl (q_in (by decide +kernel)) dX5_init_119 (fun H locs hP1 hD1 hS1 => ?_)
  replace hP : va_P D vwCl (wg5 cI cZ d (q_su T10 5 ((2 : Int32).toNatClampNeg) (3 * 2))) H := hP1
  replace hD : va_D A (wg5 cI cZ d (q_su T10 5 ((2 : Int32).toNatClampNeg) (3 * 2))) := hD1
  replace hS := hS1
  clear hP1 hD1 hS1
  obtain ⟨T11, eT11⟩ : ∃ z : St, z = q_su T10 5 ((2 : Int32).toNatClampNeg) (3 * 2) := ⟨_, rfl⟩
  rw [← eT11] at hP hD
  refine lv_iinc (v := 3) (lv' := [(1, .int 3), (0, .ref (d 0))]) hx hb dX5_init_120 hl (k := 0) rfl (by decide) (by decide) rfl (fun ls hl => ?_)
  refine lv_goto (tgt := 106) hx hb dX5_init_123 (by decide) ?_
  refine lv_iload_n hx hb dX5_init_106 rfl (lv_at hl 0 rfl) ?_
  refine lv_iconst (v := 4) hx hb dX5_init_107 (by decide) ?_
  refine lv_icmp_ge (tgt := 126) hx hb dX5_init_108 (by decide) (fun c1 => absurd c1 (by decide)) (fun _ => ?_)
  refine lv_aload_n hx hb dX5_init_111 rfl (lv_at hl 1 rfl) ?_
  refine va_get (D := D) (ci := 5) (v := .ref (d 6)) (C := RX5) (T := TX5) (N := 11) hx hb hts hi5 hown hE.1 hP 0 rfl rfl 5 (by decide) hw9 (fun _ h9 => h9) rfl dX5_init_112 ?_
  refine lv_iload_n hx hb dX5_init_115 rfl (lv_at hl 0 rfl) ?_
  refine lv_iconst (v := 3) hx hb dX5_init_116 (by decide) ?_
  refine lv_iload_n hx hb dX5_init_117 rfl (lv_at hl 0 rfl) ?_
  refine lv_imul hx hb dX5_init_118 ?_
  refine va_iast hx hb hE.1 hP hD hS 6 0 rfl rfl (q_in (by decide +kernel)) dX5_init_119 (fun H locs hP1 hD1 hS1 => ?_)
  replace hP : va_P D vwCl (wg5 cI cZ d (q_su T11 5 ((3 : Int32).toNatClampNeg) (3 * 3))) H := hP1
  replace hD : va_D A (wg5 cI cZ d (q_su T11 5 ((3 : Int32).toNatClampNeg) (3 * 3))) := hD1
  replace hS := hS1
  clear hP1 hD1 hS1
  obtain ⟨T12, eT12⟩ : ∃ z : St, z = q_su T11 5 ((3 : Int32).toNatClampNeg) (3 * 3) := ⟨_, rfl⟩
  rw [← eT12] at hP hD
  refine lv_iinc (v := 4) (lv' := [(1, .int 4), (0, .ref (d 0))]) hx hb dX5_init_120 hl (k := 0) rfl (by decide) (by decide) rfl (fun ls hl => ?_)
  refine lv_goto (tgt := 106) hx hb dX5_init_123 (by decide) ?_
  refine lv_iload_n hx hb dX5_init_106 rfl (lv_at hl 0 rfl) ?_
  refine lv_iconst (v := 4) hx hb dX5_init_107 (by decide) ?_
  refine lv_icmp_ge (tgt := 126) hx hb dX5_init_108 (by decide) (fun _ => ?_) (fun c1 => absurd (by decide) c1)
  have eF : T12 = sX5 := by
    rw [eT12, eT11, eT10, eT9, eT8, eT7, eT6, eT5, eT4, eT3, eT2, eT1, eT0]
    rfl
  rw [eF] at hP hD
  exact W.vret hx hb hr (fun t e1 hW => ⟨⟨(), rfl, trivial, d, ed0, by rw [e1]; exact hP, hAe ▸ hD⟩, hAe ▸ hS.F e1⟩) (hAe ▸ hS.2.2) dX5_init_126
