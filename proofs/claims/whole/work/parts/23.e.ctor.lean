def sX9 : St := (q_su (q_su (q_su (q_su (q_su (q_su (q_su (q_su (q_su (q_su (q_su (q_su (q_su (fun _ _ => 0) 2 ((0 : Int32).toNatClampNeg) (-6)) 2 ((1 : Int32).toNatClampNeg) (-6)) 2 ((2 : Int32).toNatClampNeg) (-6)) 2 ((3 : Int32).toNatClampNeg) (-6)) 2 ((4 : Int32).toNatClampNeg) (-6)) 2 ((5 : Int32).toNatClampNeg) (-6)) 2 ((6 : Int32).toNatClampNeg) (-6)) 2 ((7 : Int32).toNatClampNeg) (-6)) 5 ((0 : Int32).toNatClampNeg) (3 * 0)) 5 ((1 : Int32).toNatClampNeg) (3 * 1)) 5 ((2 : Int32).toNatClampNeg) (3 * 2)) 5 ((3 : Int32).toNatClampNeg) (3 * 3)) 9 0 1)
abbrev rmX9_init : Room := { frames := 1, cells := 22, slots := 3613, locals := 12 }
set_option maxHeartbeats 8000000 in
set_option maxRecDepth 100000 in
theorem kX9_init (l : Launch) (D : va_G) (cI cZ cO : ClassId) (h0 sz : Nat) : Met l yX9_init wsX9_init rmX9_init (q_PM D cI cZ cO [.ref h0] sz ([(h0, .inr (9, [.null, .null, .null, .null, .null, .null, .null, .null, .null, .int 0, .int 0, .null, .null, .null, .int 0, .null, .int 0, .null, .null, .null, .int 0, .int 0, .int 0, .null, .int 0, .int 0, .int 0, .int 0, .int 0, .int 0, .null, .null, .null, .null, .null, .int 0, .int 0]))] : va_W)) (va_Qv (fun _ : Unit => True) (fun _ t => ∃ d : Nat → Nat, d 0 = h0 ∧ va_P D vwCl (wg9 cI cZ d sX9) t.heap ∧ va_D (va_A ([(h0, .inr (9, [.null, .null, .null, .null, .null, .null, .null, .null, .null, .int 0, .int 0, .null, .null, .null, .int 0, .null, .int 0, .null, .null, .null, .int 0, .int 0, .int 0, .null, .int 0, .int 0, .int 0, .int 0, .int 0, .int 0, .null, .null, .null, .null, .null, .int 0, .int 0]))] : va_W) sz) (wg9 cI cZ d sX9)) (va_A ([(h0, .inr (9, [.null, .null, .null, .null, .null, .null, .null, .null, .null, .int 0, .int 0, .null, .null, .null, .int 0, .null, .int 0, .null, .null, .null, .int 0, .int 0, .int 0, .null, .int 0, .int 0, .int 0, .int 0, .int 0, .int 0, .null, .null, .null, .null, .null, .int 0, .int 0]))] : va_W) sz)) 22 3613 (va_A ([(h0, .inr (9, [.null, .null, .null, .null, .null, .null, .null, .null, .null, .int 0, .int 0, .null, .null, .null, .int 0, .null, .int 0, .null, .null, .null, .int 0, .int 0, .int 0, .null, .int 0, .int 0, .int 0, .int 0, .int 0, .int 0, .null, .null, .null, .null, .null, .int 0, .int 0]))] : va_W) sz) := by
  refine Met.ofW (cc := cX9_init) (maxL := 2) (ret := none) (by decide) rfl ?_
  intro p e s m args below meth c s₁ B hml hv
  obtain ⟨rfl, hsz, hE, hP, hD0⟩ := hv
  have hx := B.exec
  have hb := B.bytes
  have hr := B.returns
  have hts := atoms_spec (ws := wsX9_init) B.pre
  have hown : s.vm.findClass RX9 = some m.cls := findClass_of_methodNamed B.named
  have hlocks := B.notSynchronized
  have hin : meth.name = "<init>" := (name_of_methodNamed B.named B.method).1
  have hi9 : ∀ w ∈ u_ws RX9 TX9 37, w ∈ wsX9_init := by decide +kernel
  have hw0 := hts (.methodLink RX9 1 objectInit) (by decide +kernel)
  have hw1 := hts (.instanceMethod objectInit) (by decide +kernel)
  have hw2 := hts (.code objectInit ⟨#[0xb1]⟩ 1 none) (by decide +kernel)
  have hw3 := hts (.arrayClass .int) (by decide +kernel)
  have hw4 := hts (.fieldLink RX9 7 "HailNamesModel" "counts" "[I") (by decide +kernel)
  have hw5 := hts (.fieldLink RX9 13 "HailNamesModel" "noted" "[I") (by decide +kernel)
  have hw6 := hts (.fieldLink RX9 16 "HailNamesModel" "lies" "[I") (by decide +kernel)
  have hw7 := hts (.fieldLink RX9 19 "HailNamesModel" "size" "[I") (by decide +kernel)
  have hw8 := hts (.fieldLink RX9 22 "HailNamesModel" "figure" "[I") (by decide +kernel)
  have hw9 := hts (.fieldLink RX9 25 "HailNamesModel" "stands" "[I") (by decide +kernel)
  have hw10 := hts (.fieldLink RX9 28 "HailNamesModel" "stun" "[I") (by decide +kernel)
  have hw11 := hts (.fieldLink RX9 31 "HailNamesModel" "hasRead" "[I") (by decide +kernel)
  have hw12 := hts (.fieldLink RX9 34 "HailNamesModel" "did" "[I") (by decide +kernel)
  have hw13 := hts (.fieldLink RX9 37 "HailNamesModel" "sightSet" "[I") (by decide +kernel)
  have hw14 := hts (.fieldLink RX9 40 "HailNamesModel" "sightOf" "[I") (by decide +kernel)
  have hw15 := hts (.fieldLink RX9 43 "HailNamesModel" "sightMany" "[I") (by decide +kernel)
  have hw16 := hts (.fieldLink RX9 46 "HailNamesModel" "pad" "[I") (by decide +kernel)
  have hw17 := hts (.fieldLink RX9 49 "HailNamesModel" "act" "[I") (by decide +kernel)
  have hw18 := hts (.fieldLink RX9 52 "HailNamesModel" "who" "[I") (by decide +kernel)
  have hw19 := hts (.fieldLink RX9 55 "HailNamesModel" "whom" "[I") (by decide +kernel)
  have hw20 := hts (.fieldLink RX9 58 "HailNamesModel" "had" "[I") (by decide +kernel)
  have hw21 := hts (.fieldLink RX9 61 "HailNamesModel" "free" "[I") (by decide +kernel)
  have hw22 := hts (.fieldLink RX9 64 "HailNamesModel" "byMany" "[I") (by decide +kernel)
  have hw23 := hts (.arrayClass .boolean) (by decide +kernel)
  have hw24 := hts (.fieldLink RX9 67 "HailNamesModel" "wins" "[Z") (by decide +kernel)
  have hw25 := hts (.fieldLink RX9 71 "HailNamesModel" "kept" "[I") (by decide +kernel)
  have hw26 := hts (.fieldLink RX9 74 "HailNamesModel" "isKept" "[Z") (by decide +kernel)
  have hw27 := hts (.fieldLink RX9 77 "HailNamesModel" "melting" "I") (by decide +kernel)
  subst hsz
  have hD := hD0.self (sz := s.heap.size)
  generalize hAe : va_A ([(h0, .inr (9, [.null, .null, .null, .null, .null, .null, .null, .null, .null, .int 0, .int 0, .null, .null, .null, .int 0, .null, .int 0, .null, .null, .null, .int 0, .int 0, .int 0, .null, .int 0, .int 0, .int 0, .int 0, .int 0, .int 0, .null, .null, .null, .null, .null, .int 0, .int 0]))] : va_W) s.heap.size = A at hD
  have hA : ∀ q : Nat, s.heap.size ≤ q → A q := fun q h => by rw [← hAe]; exact Or.inr h
  have hS : va_S A s.heap s.heap [] := va_S.rf
  have hl := lv_entry ([.ref h0]) (n := 2) (Nat.le_of_ble_eq_true rfl)
  rw [lg_entry_eq]
  generalize (lg_sl ([.ref h0]) ++ List.replicate (2 - (lg_sl ([.ref h0])).length) Slot.unset).toArray = ls at hl ⊢
  have hl : lv_has ls 2 [(0, .ref h0)] := hl
  obtain ⟨H, hH⟩ : ∃ H, H = s.heap := ⟨_, rfl⟩
  rw [← hH] at hP
  have hS : va_S A s.heap H [] := by rw [hH]; exact hS
  rw [show W p l e (headSpec wsX9_init rmX9_init).room s m ([.ref h0] : List Value).toArray below meth c s.heap = W p l e (headSpec wsX9_init rmX9_init).room s m ([.ref h0] : List Value).toArray below meth c H by rw [hH]]
  refine lv_aload_n hx hb dX9_init_0 rfl (lv_at hl 0 rfl) ?_
  refine W.objInit hx hb hown hw0 hw1 hw2 rfl (by rw [hml]; exact hl.1) rfl dX9_init_1 (Nat.le_of_ble_eq_true rfl) (Nat.le_of_ble_eq_true rfl) ?_
  refine W.eq (g2 := F0 m 4 ls []) rfl ?_
  refine lv_aload_n hx hb dX9_init_4 rfl (lv_at hl 0 rfl) ?_
  refine lv_bipush (v := 8) hx hb dX9_init_5 (by decide) ?_
  refine q_newi (N := 8) hx hb hw3 hE hP hD hS hA (by decide) (by decide +kernel) (by decide +kernel) (Nat.le_of_ble_eq_true rfl) (Nat.le_of_ble_eq_true rfl) dX9_init_7 (fun q1 H hP1 hD1 hS1 => ?_)
  replace hP : va_P D vwCl ([(h0, .inr (9, [.null, .null, .null, .null, .null, .null, .null, .null, .null, .int 0, .int 0, .null, .null, .null, .int 0, .null, .int 0, .null, .null, .null, .int 0, .int 0, .int 0, .null, .int 0, .int 0, .int 0, .int 0, .int 0, .int 0, .null, .null, .null, .null, .null, .int 0, .int 0])), (q1, .inl (cI, 8, .inl (fun _ => 0)))]) H := hP1
  replace hD : va_D A ([(h0, .inr (9, [.null, .null, .null, .null, .null, .null, .null, .null, .null, .int 0, .int 0, .null, .null, .null, .int 0, .null, .int 0, .null, .null, .null, .int 0, .int 0, .int 0, .null, .int 0, .int 0, .int 0, .int 0, .int 0, .int 0, .null, .null, .null, .null, .null, .int 0, .int 0])), (q1, .inl (cI, 8, .inl (fun _ => 0)))]) := hD1
  replace hS := hS1
  clear hP1 hD1 hS1
  refine W.widen (k := 1) (n := 8) (Nat.le_of_ble_eq_true rfl) (Nat.le_of_ble_eq_true rfl) ?_
  refine va_putF (D := D) (ci := 9) (v := .ref q1) (ty := .array .int) (C := RX9) (T := TX9) (N := 37) hx hb hts hi9 tyX9 tyX9_ok nmX9 hown hE.1 hP hD hS 0 rfl rfl 0 (by decide) hw4 (fun _ h9 => h9) rfl hin rfl (by decide +kernel) rfl rfl (Nat.le_of_ble_eq_true rfl) dX9_init_9 (fun H locs hP1 hD1 hS1 => ?_)
  replace hP : va_P D vwCl ([(h0, .inr (9, [.ref q1, .null, .null, .null, .null, .null, .null, .null, .null, .int 0, .int 0, .null, .null, .null, .int 0, .null, .int 0, .null, .null, .null, .int 0, .int 0, .int 0, .null, .int 0, .int 0, .int 0, .int 0, .int 0, .int 0, .null, .null, .null, .null, .null, .int 0, .int 0])), (q1, .inl (cI, 8, .inl (fun _ => 0)))]) H := hP1
  replace hD : va_D A ([(h0, .inr (9, [.ref q1, .null, .null, .null, .null, .null, .null, .null, .null, .int 0, .int 0, .null, .null, .null, .int 0, .null, .int 0, .null, .null, .null, .int 0, .int 0, .int 0, .null, .int 0, .int 0, .int 0, .int 0, .int 0, .int 0, .null, .null, .null, .null, .null, .int 0, .int 0])), (q1, .inl (cI, 8, .inl (fun _ => 0)))]) := hD1
  replace hS := hS1
  clear hP1 hD1 hS1
  refine lv_aload_n hx hb dX9_init_12 rfl (lv_at hl 0 rfl) ?_
  refine lv_bipush (v := 8) hx hb dX9_init_13 (by decide) ?_
  refine q_newi (N := 8) hx hb hw3 hE hP hD hS hA (by decide) (by decide +kernel) (by decide +kernel) (Nat.le_of_ble_eq_true rfl) (Nat.le_of_ble_eq_true rfl) dX9_init_15 (fun q2 H hP1 hD1 hS1 => ?_)
  replace hP : va_P D vwCl ([(h0, .inr (9, [.ref q1, .null, .null, .null, .null, .null, .null, .null, .null, .int 0, .int 0, .null, .null, .null, .int 0, .null, .int 0, .null, .null, .null, .int 0, .int 0, .int 0, .null, .int 0, .int 0, .int 0, .int 0, .int 0, .int 0, .null, .null, .null, .null, .null, .int 0, .int 0])), (q1, .inl (cI, 8, .inl (fun _ => 0))), (q2, .inl (cI, 8, .inl (fun _ => 0)))]) H := hP1
  replace hD : va_D A ([(h0, .inr (9, [.ref q1, .null, .null, .null, .null, .null, .null, .null, .null, .int 0, .int 0, .null, .null, .null, .int 0, .null, .int 0, .null, .null, .null, .int 0, .int 0, .int 0, .null, .int 0, .int 0, .int 0, .int 0, .int 0, .int 0, .null, .null, .null, .null, .null, .int 0, .int 0])), (q1, .inl (cI, 8, .inl (fun _ => 0))), (q2, .inl (cI, 8, .inl (fun _ => 0)))]) := hD1
  replace hS := hS1
  clear hP1 hD1 hS1
  refine W.widen (k := 2) (n := 16) (Nat.le_of_ble_eq_true rfl) (Nat.le_of_ble_eq_true rfl) ?_
  refine va_putF (D := D) (ci := 9) (v := .ref q2) (ty := .array .int) (C := RX9) (T := TX9) (N := 37) hx hb hts hi9 tyX9 tyX9_ok nmX9 hown hE.1 hP hD hS 0 rfl rfl 1 (by decide) hw5 (fun _ h9 => h9) rfl hin rfl (by decide +kernel) rfl rfl (Nat.le_of_ble_eq_true rfl) dX9_init_17 (fun H locs hP1 hD1 hS1 => ?_)
  replace hP : va_P D vwCl ([(h0, .inr (9, [.ref q1, .ref q2, .null, .null, .null, .null, .null, .null, .null, .int 0, .int 0, .null, .null, .null, .int 0, .null, .int 0, .null, .null, .null, .int 0, .int 0, .int 0, .null, .int 0, .int 0, .int 0, .int 0, .int 0, .int 0, .null, .null, .null, .null, .null, .int 0, .int 0])), (q1, .inl (cI, 8, .inl (fun _ => 0))), (q2, .inl (cI, 8, .inl (fun _ => 0)))]) H := hP1
  replace hD : va_D A ([(h0, .inr (9, [.ref q1, .ref q2, .null, .null, .null, .null, .null, .null, .null, .int 0, .int 0, .null, .null, .null, .int 0, .null, .int 0, .null, .null, .null, .int 0, .int 0, .int 0, .null, .int 0, .int 0, .int 0, .int 0, .int 0, .int 0, .null, .null, .null, .null, .null, .int 0, .int 0])), (q1, .inl (cI, 8, .inl (fun _ => 0))), (q2, .inl (cI, 8, .inl (fun _ => 0)))]) := hD1
  replace hS := hS1
  clear hP1 hD1 hS1
  refine lv_aload_n hx hb dX9_init_20 rfl (lv_at hl 0 rfl) ?_
  refine lv_bipush (v := 8) hx hb dX9_init_21 (by decide) ?_
  refine q_newi (N := 8) hx hb hw3 hE hP hD hS hA (by decide) (by decide +kernel) (by decide +kernel) (Nat.le_of_ble_eq_true rfl) (Nat.le_of_ble_eq_true rfl) dX9_init_23 (fun q3 H hP1 hD1 hS1 => ?_)
  replace hP : va_P D vwCl ([(h0, .inr (9, [.ref q1, .ref q2, .null, .null, .null, .null, .null, .null, .null, .int 0, .int 0, .null, .null, .null, .int 0, .null, .int 0, .null, .null, .null, .int 0, .int 0, .int 0, .null, .int 0, .int 0, .int 0, .int 0, .int 0, .int 0, .null, .null, .null, .null, .null, .int 0, .int 0])), (q1, .inl (cI, 8, .inl (fun _ => 0))), (q2, .inl (cI, 8, .inl (fun _ => 0))), (q3, .inl (cI, 8, .inl (fun _ => 0)))]) H := hP1
  replace hD : va_D A ([(h0, .inr (9, [.ref q1, .ref q2, .null, .null, .null, .null, .null, .null, .null, .int 0, .int 0, .null, .null, .null, .int 0, .null, .int 0, .null, .null, .null, .int 0, .int 0, .int 0, .null, .int 0, .int 0, .int 0, .int 0, .int 0, .int 0, .null, .null, .null, .null, .null, .int 0, .int 0])), (q1, .inl (cI, 8, .inl (fun _ => 0))), (q2, .inl (cI, 8, .inl (fun _ => 0))), (q3, .inl (cI, 8, .inl (fun _ => 0)))]) := hD1
  replace hS := hS1
  clear hP1 hD1 hS1
  refine W.widen (k := 3) (n := 24) (Nat.le_of_ble_eq_true rfl) (Nat.le_of_ble_eq_true rfl) ?_
  refine va_putF (D := D) (ci := 9) (v := .ref q3) (ty := .array .int) (C := RX9) (T := TX9) (N := 37) hx hb hts hi9 tyX9 tyX9_ok nmX9 hown hE.1 hP hD hS 0 rfl rfl 2 (by decide) hw6 (fun _ h9 => h9) rfl hin rfl (by decide +kernel) rfl rfl (Nat.le_of_ble_eq_true rfl) dX9_init_25 (fun H locs hP1 hD1 hS1 => ?_)
  replace hP : va_P D vwCl ([(h0, .inr (9, [.ref q1, .ref q2, .ref q3, .null, .null, .null, .null, .null, .null, .int 0, .int 0, .null, .null, .null, .int 0, .null, .int 0, .null, .null, .null, .int 0, .int 0, .int 0, .null, .int 0, .int 0, .int 0, .int 0, .int 0, .int 0, .null, .null, .null, .null, .null, .int 0, .int 0])), (q1, .inl (cI, 8, .inl (fun _ => 0))), (q2, .inl (cI, 8, .inl (fun _ => 0))), (q3, .inl (cI, 8, .inl (fun _ => 0)))]) H := hP1
  replace hD : va_D A ([(h0, .inr (9, [.ref q1, .ref q2, .ref q3, .null, .null, .null, .null, .null, .null, .int 0, .int 0, .null, .null, .null, .int 0, .null, .int 0, .null, .null, .null, .int 0, .int 0, .int 0, .null, .int 0, .int 0, .int 0, .int 0, .int 0, .int 0, .null, .null, .null, .null, .null, .int 0, .int 0])), (q1, .inl (cI, 8, .inl (fun _ => 0))), (q2, .inl (cI, 8, .inl (fun _ => 0))), (q3, .inl (cI, 8, .inl (fun _ => 0)))]) := hD1
  replace hS := hS1
  clear hP1 hD1 hS1
  refine lv_aload_n hx hb dX9_init_28 rfl (lv_at hl 0 rfl) ?_
  refine lv_bipush (v := 8) hx hb dX9_init_29 (by decide) ?_
  refine q_newi (N := 8) hx hb hw3 hE hP hD hS hA (by decide) (by decide +kernel) (by decide +kernel) (Nat.le_of_ble_eq_true rfl) (Nat.le_of_ble_eq_true rfl) dX9_init_31 (fun q4 H hP1 hD1 hS1 => ?_)
  replace hP : va_P D vwCl ([(h0, .inr (9, [.ref q1, .ref q2, .ref q3, .null, .null, .null, .null, .null, .null, .int 0, .int 0, .null, .null, .null, .int 0, .null, .int 0, .null, .null, .null, .int 0, .int 0, .int 0, .null, .int 0, .int 0, .int 0, .int 0, .int 0, .int 0, .null, .null, .null, .null, .null, .int 0, .int 0])), (q1, .inl (cI, 8, .inl (fun _ => 0))), (q2, .inl (cI, 8, .inl (fun _ => 0))), (q3, .inl (cI, 8, .inl (fun _ => 0))), (q4, .inl (cI, 8, .inl (fun _ => 0)))]) H := hP1
  replace hD : va_D A ([(h0, .inr (9, [.ref q1, .ref q2, .ref q3, .null, .null, .null, .null, .null, .null, .int 0, .int 0, .null, .null, .null, .int 0, .null, .int 0, .null, .null, .null, .int 0, .int 0, .int 0, .null, .int 0, .int 0, .int 0, .int 0, .int 0, .int 0, .null, .null, .null, .null, .null, .int 0, .int 0])), (q1, .inl (cI, 8, .inl (fun _ => 0))), (q2, .inl (cI, 8, .inl (fun _ => 0))), (q3, .inl (cI, 8, .inl (fun _ => 0))), (q4, .inl (cI, 8, .inl (fun _ => 0)))]) := hD1
  replace hS := hS1
  clear hP1 hD1 hS1
  refine W.widen (k := 4) (n := 32) (Nat.le_of_ble_eq_true rfl) (Nat.le_of_ble_eq_true rfl) ?_
  refine va_putF (D := D) (ci := 9) (v := .ref q4) (ty := .array .int) (C := RX9) (T := TX9) (N := 37) hx hb hts hi9 tyX9 tyX9_ok nmX9 hown hE.1 hP hD hS 0 rfl rfl 3 (by decide) hw7 (fun _ h9 => h9) rfl hin rfl (by decide +kernel) rfl rfl (Nat.le_of_ble_eq_true rfl) dX9_init_33 (fun H locs hP1 hD1 hS1 => ?_)
  replace hP : va_P D vwCl ([(h0, .inr (9, [.ref q1, .ref q2, .ref q3, .ref q4, .null, .null, .null, .null, .null, .int 0, .int 0, .null, .null, .null, .int 0, .null, .int 0, .null, .null, .null, .int 0, .int 0, .int 0, .null, .int 0, .int 0, .int 0, .int 0, .int 0, .int 0, .null, .null, .null, .null, .null, .int 0, .int 0])), (q1, .inl (cI, 8, .inl (fun _ => 0))), (q2, .inl (cI, 8, .inl (fun _ => 0))), (q3, .inl (cI, 8, .inl (fun _ => 0))), (q4, .inl (cI, 8, .inl (fun _ => 0)))]) H := hP1
  replace hD : va_D A ([(h0, .inr (9, [.ref q1, .ref q2, .ref q3, .ref q4, .null, .null, .null, .null, .null, .int 0, .int 0, .null, .null, .null, .int 0, .null, .int 0, .null, .null, .null, .int 0, .int 0, .int 0, .null, .int 0, .int 0, .int 0, .int 0, .int 0, .int 0, .null, .null, .null, .null, .null, .int 0, .int 0])), (q1, .inl (cI, 8, .inl (fun _ => 0))), (q2, .inl (cI, 8, .inl (fun _ => 0))), (q3, .inl (cI, 8, .inl (fun _ => 0))), (q4, .inl (cI, 8, .inl (fun _ => 0)))]) := hD1
  replace hS := hS1
  clear hP1 hD1 hS1
  refine lv_aload_n hx hb dX9_init_36 rfl (lv_at hl 0 rfl) ?_
  refine lv_bipush (v := 8) hx hb dX9_init_37 (by decide) ?_
  refine q_newi (N := 8) hx hb hw3 hE hP hD hS hA (by decide) (by decide +kernel) (by decide +kernel) (Nat.le_of_ble_eq_true rfl) (Nat.le_of_ble_eq_true rfl) dX9_init_39 (fun q5 H hP1 hD1 hS1 => ?_)
  replace hP : va_P D vwCl ([(h0, .inr (9, [.ref q1, .ref q2, .ref q3, .ref q4, .null, .null, .null, .null, .null, .int 0, .int 0, .null, .null, .null, .int 0, .null, .int 0, .null, .null, .null, .int 0, .int 0, .int 0, .null, .int 0, .int 0, .int 0, .int 0, .int 0, .int 0, .null, .null, .null, .null, .null, .int 0, .int 0])), (q1, .inl (cI, 8, .inl (fun _ => 0))), (q2, .inl (cI, 8, .inl (fun _ => 0))), (q3, .inl (cI, 8, .inl (fun _ => 0))), (q4, .inl (cI, 8, .inl (fun _ => 0))), (q5, .inl (cI, 8, .inl (fun _ => 0)))]) H := hP1
  replace hD : va_D A ([(h0, .inr (9, [.ref q1, .ref q2, .ref q3, .ref q4, .null, .null, .null, .null, .null, .int 0, .int 0, .null, .null, .null, .int 0, .null, .int 0, .null, .null, .null, .int 0, .int 0, .int 0, .null, .int 0, .int 0, .int 0, .int 0, .int 0, .int 0, .null, .null, .null, .null, .null, .int 0, .int 0])), (q1, .inl (cI, 8, .inl (fun _ => 0))), (q2, .inl (cI, 8, .inl (fun _ => 0))), (q3, .inl (cI, 8, .inl (fun _ => 0))), (q4, .inl (cI, 8, .inl (fun _ => 0))), (q5, .inl (cI, 8, .inl (fun _ => 0)))]) := hD1
  replace hS := hS1
  clear hP1 hD1 hS1
  refine W.widen (k := 5) (n := 40) (Nat.le_of_ble_eq_true rfl) (Nat.le_of_ble_eq_true rfl) ?_
  refine va_putF (D := D) (ci := 9) (v := .ref q5) (ty := .array .int) (C := RX9) (T := TX9) (N := 37) hx hb hts hi9 tyX9 tyX9_ok nmX9 hown hE.1 hP hD hS 0 rfl rfl 4 (by decide) hw8 (fun _ h9 => h9) rfl hin rfl (by decide +kernel) rfl rfl (Nat.le_of_ble_eq_true rfl) dX9_init_41 (fun H locs hP1 hD1 hS1 => ?_)
  replace hP : va_P D vwCl ([(h0, .inr (9, [.ref q1, .ref q2, .ref q3, .ref q4, .ref q5, .null, .null, .null, .null, .int 0, .int 0, .null, .null, .null, .int 0, .null, .int 0, .null, .null, .null, .int 0, .int 0, .int 0, .null, .int 0, .int 0, .int 0, .int 0, .int 0, .int 0, .null, .null, .null, .null, .null, .int 0, .int 0])), (q1, .inl (cI, 8, .inl (fun _ => 0))), (q2, .inl (cI, 8, .inl (fun _ => 0))), (q3, .inl (cI, 8, .inl (fun _ => 0))), (q4, .inl (cI, 8, .inl (fun _ => 0))), (q5, .inl (cI, 8, .inl (fun _ => 0)))]) H := hP1
  replace hD : va_D A ([(h0, .inr (9, [.ref q1, .ref q2, .ref q3, .ref q4, .ref q5, .null, .null, .null, .null, .int 0, .int 0, .null, .null, .null, .int 0, .null, .int 0, .null, .null, .null, .int 0, .int 0, .int 0, .null, .int 0, .int 0, .int 0, .int 0, .int 0, .int 0, .null, .null, .null, .null, .null, .int 0, .int 0])), (q1, .inl (cI, 8, .inl (fun _ => 0))), (q2, .inl (cI, 8, .inl (fun _ => 0))), (q3, .inl (cI, 8, .inl (fun _ => 0))), (q4, .inl (cI, 8, .inl (fun _ => 0))), (q5, .inl (cI, 8, .inl (fun _ => 0)))]) := hD1
  replace hS := hS1
  clear hP1 hD1 hS1
  refine lv_aload_n hx hb dX9_init_44 rfl (lv_at hl 0 rfl) ?_
  refine lv_iconst (v := 4) hx hb dX9_init_45 (by decide) ?_
  refine q_newi (N := 4) hx hb hw3 hE hP hD hS hA (by decide) (by decide +kernel) (by decide +kernel) (Nat.le_of_ble_eq_true rfl) (Nat.le_of_ble_eq_true rfl) dX9_init_46 (fun q6 H hP1 hD1 hS1 => ?_)
  replace hP : va_P D vwCl ([(h0, .inr (9, [.ref q1, .ref q2, .ref q3, .ref q4, .ref q5, .null, .null, .null, .null, .int 0, .int 0, .null, .null, .null, .int 0, .null, .int 0, .null, .null, .null, .int 0, .int 0, .int 0, .null, .int 0, .int 0, .int 0, .int 0, .int 0, .int 0, .null, .null, .null, .null, .null, .int 0, .int 0])), (q1, .inl (cI, 8, .inl (fun _ => 0))), (q2, .inl (cI, 8, .inl (fun _ => 0))), (q3, .inl (cI, 8, .inl (fun _ => 0))), (q4, .inl (cI, 8, .inl (fun _ => 0))), (q5, .inl (cI, 8, .inl (fun _ => 0))), (q6, .inl (cI, 4, .inl (fun _ => 0)))]) H := hP1
  replace hD : va_D A ([(h0, .inr (9, [.ref q1, .ref q2, .ref q3, .ref q4, .ref q5, .null, .null, .null, .null, .int 0, .int 0, .null, .null, .null, .int 0, .null, .int 0, .null, .null, .null, .int 0, .int 0, .int 0, .null, .int 0, .int 0, .int 0, .int 0, .int 0, .int 0, .null, .null, .null, .null, .null, .int 0, .int 0])), (q1, .inl (cI, 8, .inl (fun _ => 0))), (q2, .inl (cI, 8, .inl (fun _ => 0))), (q3, .inl (cI, 8, .inl (fun _ => 0))), (q4, .inl (cI, 8, .inl (fun _ => 0))), (q5, .inl (cI, 8, .inl (fun _ => 0))), (q6, .inl (cI, 4, .inl (fun _ => 0)))]) := hD1
  replace hS := hS1
  clear hP1 hD1 hS1
  refine W.widen (k := 6) (n := 44) (Nat.le_of_ble_eq_true rfl) (Nat.le_of_ble_eq_true rfl) ?_
  refine va_putF (D := D) (ci := 9) (v := .ref q6) (ty := .array .int) (C := RX9) (T := TX9) (N := 37) hx hb hts hi9 tyX9 tyX9_ok nmX9 hown hE.1 hP hD hS 0 rfl rfl 5 (by decide) hw9 (fun _ h9 => h9) rfl hin rfl (by decide +kernel) rfl rfl (Nat.le_of_ble_eq_true rfl) dX9_init_48 (fun H locs hP1 hD1 hS1 => ?_)
  replace hP : va_P D vwCl ([(h0, .inr (9, [.ref q1, .ref q2, .ref q3, .ref q4, .ref q5, .ref q6, .null, .null, .null, .int 0, .int 0, .null, .null, .null, .int 0, .null, .int 0, .null, .null, .null, .int 0, .int 0, .int 0, .null, .int 0, .int 0, .int 0, .int 0, .int 0, .int 0, .null, .null, .null, .null, .null, .int 0, .int 0])), (q1, .inl (cI, 8, .inl (fun _ => 0))), (q2, .inl (cI, 8, .inl (fun _ => 0))), (q3, .inl (cI, 8, .inl (fun _ => 0))), (q4, .inl (cI, 8, .inl (fun _ => 0))), (q5, .inl (cI, 8, .inl (fun _ => 0))), (q6, .inl (cI, 4, .inl (fun _ => 0)))]) H := hP1
  replace hD : va_D A ([(h0, .inr (9, [.ref q1, .ref q2, .ref q3, .ref q4, .ref q5, .ref q6, .null, .null, .null, .int 0, .int 0, .null, .null, .null, .int 0, .null, .int 0, .null, .null, .null, .int 0, .int 0, .int 0, .null, .int 0, .int 0, .int 0, .int 0, .int 0, .int 0, .null, .null, .null, .null, .null, .int 0, .int 0])), (q1, .inl (cI, 8, .inl (fun _ => 0))), (q2, .inl (cI, 8, .inl (fun _ => 0))), (q3, .inl (cI, 8, .inl (fun _ => 0))), (q4, .inl (cI, 8, .inl (fun _ => 0))), (q5, .inl (cI, 8, .inl (fun _ => 0))), (q6, .inl (cI, 4, .inl (fun _ => 0)))]) := hD1
  replace hS := hS1
  clear hP1 hD1 hS1
  refine lv_aload_n hx hb dX9_init_51 rfl (lv_at hl 0 rfl) ?_
  refine lv_iconst (v := 4) hx hb dX9_init_52 (by decide) ?_
  refine q_newi (N := 4) hx hb hw3 hE hP hD hS hA (by decide) (by decide +kernel) (by decide +kernel) (Nat.le_of_ble_eq_true rfl) (Nat.le_of_ble_eq_true rfl) dX9_init_53 (fun q7 H hP1 hD1 hS1 => ?_)
  replace hP : va_P D vwCl ([(h0, .inr (9, [.ref q1, .ref q2, .ref q3, .ref q4, .ref q5, .ref q6, .null, .null, .null, .int 0, .int 0, .null, .null, .null, .int 0, .null, .int 0, .null, .null, .null, .int 0, .int 0, .int 0, .null, .int 0, .int 0, .int 0, .int 0, .int 0, .int 0, .null, .null, .null, .null, .null, .int 0, .int 0])), (q1, .inl (cI, 8, .inl (fun _ => 0))), (q2, .inl (cI, 8, .inl (fun _ => 0))), (q3, .inl (cI, 8, .inl (fun _ => 0))), (q4, .inl (cI, 8, .inl (fun _ => 0))), (q5, .inl (cI, 8, .inl (fun _ => 0))), (q6, .inl (cI, 4, .inl (fun _ => 0))), (q7, .inl (cI, 4, .inl (fun _ => 0)))]) H := hP1
  replace hD : va_D A ([(h0, .inr (9, [.ref q1, .ref q2, .ref q3, .ref q4, .ref q5, .ref q6, .null, .null, .null, .int 0, .int 0, .null, .null, .null, .int 0, .null, .int 0, .null, .null, .null, .int 0, .int 0, .int 0, .null, .int 0, .int 0, .int 0, .int 0, .int 0, .int 0, .null, .null, .null, .null, .null, .int 0, .int 0])), (q1, .inl (cI, 8, .inl (fun _ => 0))), (q2, .inl (cI, 8, .inl (fun _ => 0))), (q3, .inl (cI, 8, .inl (fun _ => 0))), (q4, .inl (cI, 8, .inl (fun _ => 0))), (q5, .inl (cI, 8, .inl (fun _ => 0))), (q6, .inl (cI, 4, .inl (fun _ => 0))), (q7, .inl (cI, 4, .inl (fun _ => 0)))]) := hD1
  replace hS := hS1
  clear hP1 hD1 hS1
  refine W.widen (k := 7) (n := 48) (Nat.le_of_ble_eq_true rfl) (Nat.le_of_ble_eq_true rfl) ?_
  refine va_putF (D := D) (ci := 9) (v := .ref q7) (ty := .array .int) (C := RX9) (T := TX9) (N := 37) hx hb hts hi9 tyX9 tyX9_ok nmX9 hown hE.1 hP hD hS 0 rfl rfl 6 (by decide) hw10 (fun _ h9 => h9) rfl hin rfl (by decide +kernel) rfl rfl (Nat.le_of_ble_eq_true rfl) dX9_init_55 (fun H locs hP1 hD1 hS1 => ?_)
  replace hP : va_P D vwCl ([(h0, .inr (9, [.ref q1, .ref q2, .ref q3, .ref q4, .ref q5, .ref q6, .ref q7, .null, .null, .int 0, .int 0, .null, .null, .null, .int 0, .null, .int 0, .null, .null, .null, .int 0, .int 0, .int 0, .null, .int 0, .int 0, .int 0, .int 0, .int 0, .int 0, .null, .null, .null, .null, .null, .int 0, .int 0])), (q1, .inl (cI, 8, .inl (fun _ => 0))), (q2, .inl (cI, 8, .inl (fun _ => 0))), (q3, .inl (cI, 8, .inl (fun _ => 0))), (q4, .inl (cI, 8, .inl (fun _ => 0))), (q5, .inl (cI, 8, .inl (fun _ => 0))), (q6, .inl (cI, 4, .inl (fun _ => 0))), (q7, .inl (cI, 4, .inl (fun _ => 0)))]) H := hP1
  replace hD : va_D A ([(h0, .inr (9, [.ref q1, .ref q2, .ref q3, .ref q4, .ref q5, .ref q6, .ref q7, .null, .null, .int 0, .int 0, .null, .null, .null, .int 0, .null, .int 0, .null, .null, .null, .int 0, .int 0, .int 0, .null, .int 0, .int 0, .int 0, .int 0, .int 0, .int 0, .null, .null, .null, .null, .null, .int 0, .int 0])), (q1, .inl (cI, 8, .inl (fun _ => 0))), (q2, .inl (cI, 8, .inl (fun _ => 0))), (q3, .inl (cI, 8, .inl (fun _ => 0))), (q4, .inl (cI, 8, .inl (fun _ => 0))), (q5, .inl (cI, 8, .inl (fun _ => 0))), (q6, .inl (cI, 4, .inl (fun _ => 0))), (q7, .inl (cI, 4, .inl (fun _ => 0)))]) := hD1
  replace hS := hS1
  clear hP1 hD1 hS1
  refine lv_aload_n hx hb dX9_init_58 rfl (lv_at hl 0 rfl) ?_
  refine lv_iconst (v := 4) hx hb dX9_init_59 (by decide) ?_
  refine q_newi (N := 4) hx hb hw3 hE hP hD hS hA (by decide) (by decide +kernel) (by decide +kernel) (Nat.le_of_ble_eq_true rfl) (Nat.le_of_ble_eq_true rfl) dX9_init_60 (fun q8 H hP1 hD1 hS1 => ?_)
  replace hP : va_P D vwCl ([(h0, .inr (9, [.ref q1, .ref q2, .ref q3, .ref q4, .ref q5, .ref q6, .ref q7, .null, .null, .int 0, .int 0, .null, .null, .null, .int 0, .null, .int 0, .null, .null, .null, .int 0, .int 0, .int 0, .null, .int 0, .int 0, .int 0, .int 0, .int 0, .int 0, .null, .null, .null, .null, .null, .int 0, .int 0])), (q1, .inl (cI, 8, .inl (fun _ => 0))), (q2, .inl (cI, 8, .inl (fun _ => 0))), (q3, .inl (cI, 8, .inl (fun _ => 0))), (q4, .inl (cI, 8, .inl (fun _ => 0))), (q5, .inl (cI, 8, .inl (fun _ => 0))), (q6, .inl (cI, 4, .inl (fun _ => 0))), (q7, .inl (cI, 4, .inl (fun _ => 0))), (q8, .inl (cI, 4, .inl (fun _ => 0)))]) H := hP1
  replace hD : va_D A ([(h0, .inr (9, [.ref q1, .ref q2, .ref q3, .ref q4, .ref q5, .ref q6, .ref q7, .null, .null, .int 0, .int 0, .null, .null, .null, .int 0, .null, .int 0, .null, .null, .null, .int 0, .int 0, .int 0, .null, .int 0, .int 0, .int 0, .int 0, .int 0, .int 0, .null, .null, .null, .null, .null, .int 0, .int 0])), (q1, .inl (cI, 8, .inl (fun _ => 0))), (q2, .inl (cI, 8, .inl (fun _ => 0))), (q3, .inl (cI, 8, .inl (fun _ => 0))), (q4, .inl (cI, 8, .inl (fun _ => 0))), (q5, .inl (cI, 8, .inl (fun _ => 0))), (q6, .inl (cI, 4, .inl (fun _ => 0))), (q7, .inl (cI, 4, .inl (fun _ => 0))), (q8, .inl (cI, 4, .inl (fun _ => 0)))]) := hD1
  replace hS := hS1
  clear hP1 hD1 hS1
  refine W.widen (k := 8) (n := 52) (Nat.le_of_ble_eq_true rfl) (Nat.le_of_ble_eq_true rfl) ?_
  refine va_putF (D := D) (ci := 9) (v := .ref q8) (ty := .array .int) (C := RX9) (T := TX9) (N := 37) hx hb hts hi9 tyX9 tyX9_ok nmX9 hown hE.1 hP hD hS 0 rfl rfl 7 (by decide) hw11 (fun _ h9 => h9) rfl hin rfl (by decide +kernel) rfl rfl (Nat.le_of_ble_eq_true rfl) dX9_init_62 (fun H locs hP1 hD1 hS1 => ?_)
  replace hP : va_P D vwCl ([(h0, .inr (9, [.ref q1, .ref q2, .ref q3, .ref q4, .ref q5, .ref q6, .ref q7, .ref q8, .null, .int 0, .int 0, .null, .null, .null, .int 0, .null, .int 0, .null, .null, .null, .int 0, .int 0, .int 0, .null, .int 0, .int 0, .int 0, .int 0, .int 0, .int 0, .null, .null, .null, .null, .null, .int 0, .int 0])), (q1, .inl (cI, 8, .inl (fun _ => 0))), (q2, .inl (cI, 8, .inl (fun _ => 0))), (q3, .inl (cI, 8, .inl (fun _ => 0))), (q4, .inl (cI, 8, .inl (fun _ => 0))), (q5, .inl (cI, 8, .inl (fun _ => 0))), (q6, .inl (cI, 4, .inl (fun _ => 0))), (q7, .inl (cI, 4, .inl (fun _ => 0))), (q8, .inl (cI, 4, .inl (fun _ => 0)))]) H := hP1
  replace hD : va_D A ([(h0, .inr (9, [.ref q1, .ref q2, .ref q3, .ref q4, .ref q5, .ref q6, .ref q7, .ref q8, .null, .int 0, .int 0, .null, .null, .null, .int 0, .null, .int 0, .null, .null, .null, .int 0, .int 0, .int 0, .null, .int 0, .int 0, .int 0, .int 0, .int 0, .int 0, .null, .null, .null, .null, .null, .int 0, .int 0])), (q1, .inl (cI, 8, .inl (fun _ => 0))), (q2, .inl (cI, 8, .inl (fun _ => 0))), (q3, .inl (cI, 8, .inl (fun _ => 0))), (q4, .inl (cI, 8, .inl (fun _ => 0))), (q5, .inl (cI, 8, .inl (fun _ => 0))), (q6, .inl (cI, 4, .inl (fun _ => 0))), (q7, .inl (cI, 4, .inl (fun _ => 0))), (q8, .inl (cI, 4, .inl (fun _ => 0)))]) := hD1
  replace hS := hS1
  clear hP1 hD1 hS1
  refine lv_aload_n hx hb dX9_init_65 rfl (lv_at hl 0 rfl) ?_
  refine lv_iconst (v := 4) hx hb dX9_init_66 (by decide) ?_
  refine q_newi (N := 4) hx hb hw3 hE hP hD hS hA (by decide) (by decide +kernel) (by decide +kernel) (Nat.le_of_ble_eq_true rfl) (Nat.le_of_ble_eq_true rfl) dX9_init_67 (fun q9 H hP1 hD1 hS1 => ?_)
  replace hP : va_P D vwCl ([(h0, .inr (9, [.ref q1, .ref q2, .ref q3, .ref q4, .ref q5, .ref q6, .ref q7, .ref q8, .null, .int 0, .int 0, .null, .null, .null, .int 0, .null, .int 0, .null, .null, .null, .int 0, .int 0, .int 0, .null, .int 0, .int 0, .int 0, .int 0, .int 0, .int 0, .null, .null, .null, .null, .null, .int 0, .int 0])), (q1, .inl (cI, 8, .inl (fun _ => 0))), (q2, .inl (cI, 8, .inl (fun _ => 0))), (q3, .inl (cI, 8, .inl (fun _ => 0))), (q4, .inl (cI, 8, .inl (fun _ => 0))), (q5, .inl (cI, 8, .inl (fun _ => 0))), (q6, .inl (cI, 4, .inl (fun _ => 0))), (q7, .inl (cI, 4, .inl (fun _ => 0))), (q8, .inl (cI, 4, .inl (fun _ => 0))), (q9, .inl (cI, 4, .inl (fun _ => 0)))]) H := hP1
  replace hD : va_D A ([(h0, .inr (9, [.ref q1, .ref q2, .ref q3, .ref q4, .ref q5, .ref q6, .ref q7, .ref q8, .null, .int 0, .int 0, .null, .null, .null, .int 0, .null, .int 0, .null, .null, .null, .int 0, .int 0, .int 0, .null, .int 0, .int 0, .int 0, .int 0, .int 0, .int 0, .null, .null, .null, .null, .null, .int 0, .int 0])), (q1, .inl (cI, 8, .inl (fun _ => 0))), (q2, .inl (cI, 8, .inl (fun _ => 0))), (q3, .inl (cI, 8, .inl (fun _ => 0))), (q4, .inl (cI, 8, .inl (fun _ => 0))), (q5, .inl (cI, 8, .inl (fun _ => 0))), (q6, .inl (cI, 4, .inl (fun _ => 0))), (q7, .inl (cI, 4, .inl (fun _ => 0))), (q8, .inl (cI, 4, .inl (fun _ => 0))), (q9, .inl (cI, 4, .inl (fun _ => 0)))]) := hD1
  replace hS := hS1
  clear hP1 hD1 hS1
  refine W.widen (k := 9) (n := 56) (Nat.le_of_ble_eq_true rfl) (Nat.le_of_ble_eq_true rfl) ?_
  refine va_putF (D := D) (ci := 9) (v := .ref q9) (ty := .array .int) (C := RX9) (T := TX9) (N := 37) hx hb hts hi9 tyX9 tyX9_ok nmX9 hown hE.1 hP hD hS 0 rfl rfl 8 (by decide) hw12 (fun _ h9 => h9) rfl hin rfl (by decide +kernel) rfl rfl (Nat.le_of_ble_eq_true rfl) dX9_init_69 (fun H locs hP1 hD1 hS1 => ?_)
  replace hP : va_P D vwCl ([(h0, .inr (9, [.ref q1, .ref q2, .ref q3, .ref q4, .ref q5, .ref q6, .ref q7, .ref q8, .ref q9, .int 0, .int 0, .null, .null, .null, .int 0, .null, .int 0, .null, .null, .null, .int 0, .int 0, .int 0, .null, .int 0, .int 0, .int 0, .int 0, .int 0, .int 0, .null, .null, .null, .null, .null, .int 0, .int 0])), (q1, .inl (cI, 8, .inl (fun _ => 0))), (q2, .inl (cI, 8, .inl (fun _ => 0))), (q3, .inl (cI, 8, .inl (fun _ => 0))), (q4, .inl (cI, 8, .inl (fun _ => 0))), (q5, .inl (cI, 8, .inl (fun _ => 0))), (q6, .inl (cI, 4, .inl (fun _ => 0))), (q7, .inl (cI, 4, .inl (fun _ => 0))), (q8, .inl (cI, 4, .inl (fun _ => 0))), (q9, .inl (cI, 4, .inl (fun _ => 0)))]) H := hP1
  replace hD : va_D A ([(h0, .inr (9, [.ref q1, .ref q2, .ref q3, .ref q4, .ref q5, .ref q6, .ref q7, .ref q8, .ref q9, .int 0, .int 0, .null, .null, .null, .int 0, .null, .int 0, .null, .null, .null, .int 0, .int 0, .int 0, .null, .int 0, .int 0, .int 0, .int 0, .int 0, .int 0, .null, .null, .null, .null, .null, .int 0, .int 0])), (q1, .inl (cI, 8, .inl (fun _ => 0))), (q2, .inl (cI, 8, .inl (fun _ => 0))), (q3, .inl (cI, 8, .inl (fun _ => 0))), (q4, .inl (cI, 8, .inl (fun _ => 0))), (q5, .inl (cI, 8, .inl (fun _ => 0))), (q6, .inl (cI, 4, .inl (fun _ => 0))), (q7, .inl (cI, 4, .inl (fun _ => 0))), (q8, .inl (cI, 4, .inl (fun _ => 0))), (q9, .inl (cI, 4, .inl (fun _ => 0)))]) := hD1
  replace hS := hS1
  clear hP1 hD1 hS1
  refine lv_aload_n hx hb dX9_init_72 rfl (lv_at hl 0 rfl) ?_
  refine lv_bipush (v := 8) hx hb dX9_init_73 (by decide) ?_
  refine q_newi (N := 8) hx hb hw3 hE hP hD hS hA (by decide) (by decide +kernel) (by decide +kernel) (Nat.le_of_ble_eq_true rfl) (Nat.le_of_ble_eq_true rfl) dX9_init_75 (fun q10 H hP1 hD1 hS1 => ?_)
  replace hP : va_P D vwCl ([(h0, .inr (9, [.ref q1, .ref q2, .ref q3, .ref q4, .ref q5, .ref q6, .ref q7, .ref q8, .ref q9, .int 0, .int 0, .null, .null, .null, .int 0, .null, .int 0, .null, .null, .null, .int 0, .int 0, .int 0, .null, .int 0, .int 0, .int 0, .int 0, .int 0, .int 0, .null, .null, .null, .null, .null, .int 0, .int 0])), (q1, .inl (cI, 8, .inl (fun _ => 0))), (q2, .inl (cI, 8, .inl (fun _ => 0))), (q3, .inl (cI, 8, .inl (fun _ => 0))), (q4, .inl (cI, 8, .inl (fun _ => 0))), (q5, .inl (cI, 8, .inl (fun _ => 0))), (q6, .inl (cI, 4, .inl (fun _ => 0))), (q7, .inl (cI, 4, .inl (fun _ => 0))), (q8, .inl (cI, 4, .inl (fun _ => 0))), (q9, .inl (cI, 4, .inl (fun _ => 0))), (q10, .inl (cI, 8, .inl (fun _ => 0)))]) H := hP1
  replace hD : va_D A ([(h0, .inr (9, [.ref q1, .ref q2, .ref q3, .ref q4, .ref q5, .ref q6, .ref q7, .ref q8, .ref q9, .int 0, .int 0, .null, .null, .null, .int 0, .null, .int 0, .null, .null, .null, .int 0, .int 0, .int 0, .null, .int 0, .int 0, .int 0, .int 0, .int 0, .int 0, .null, .null, .null, .null, .null, .int 0, .int 0])), (q1, .inl (cI, 8, .inl (fun _ => 0))), (q2, .inl (cI, 8, .inl (fun _ => 0))), (q3, .inl (cI, 8, .inl (fun _ => 0))), (q4, .inl (cI, 8, .inl (fun _ => 0))), (q5, .inl (cI, 8, .inl (fun _ => 0))), (q6, .inl (cI, 4, .inl (fun _ => 0))), (q7, .inl (cI, 4, .inl (fun _ => 0))), (q8, .inl (cI, 4, .inl (fun _ => 0))), (q9, .inl (cI, 4, .inl (fun _ => 0))), (q10, .inl (cI, 8, .inl (fun _ => 0)))]) := hD1
  replace hS := hS1
  clear hP1 hD1 hS1
  refine W.widen (k := 10) (n := 64) (Nat.le_of_ble_eq_true rfl) (Nat.le_of_ble_eq_true rfl) ?_
  refine va_putF (D := D) (ci := 9) (v := .ref q10) (ty := .array .int) (C := RX9) (T := TX9) (N := 37) hx hb hts hi9 tyX9 tyX9_ok nmX9 hown hE.1 hP hD hS 0 rfl rfl 11 (by decide) hw13 (fun _ h9 => h9) rfl hin rfl (by decide +kernel) rfl rfl (Nat.le_of_ble_eq_true rfl) dX9_init_77 (fun H locs hP1 hD1 hS1 => ?_)
  replace hP : va_P D vwCl ([(h0, .inr (9, [.ref q1, .ref q2, .ref q3, .ref q4, .ref q5, .ref q6, .ref q7, .ref q8, .ref q9, .int 0, .int 0, .ref q10, .null, .null, .int 0, .null, .int 0, .null, .null, .null, .int 0, .int 0, .int 0, .null, .int 0, .int 0, .int 0, .int 0, .int 0, .int 0, .null, .null, .null, .null, .null, .int 0, .int 0])), (q1, .inl (cI, 8, .inl (fun _ => 0))), (q2, .inl (cI, 8, .inl (fun _ => 0))), (q3, .inl (cI, 8, .inl (fun _ => 0))), (q4, .inl (cI, 8, .inl (fun _ => 0))), (q5, .inl (cI, 8, .inl (fun _ => 0))), (q6, .inl (cI, 4, .inl (fun _ => 0))), (q7, .inl (cI, 4, .inl (fun _ => 0))), (q8, .inl (cI, 4, .inl (fun _ => 0))), (q9, .inl (cI, 4, .inl (fun _ => 0))), (q10, .inl (cI, 8, .inl (fun _ => 0)))]) H := hP1
  replace hD : va_D A ([(h0, .inr (9, [.ref q1, .ref q2, .ref q3, .ref q4, .ref q5, .ref q6, .ref q7, .ref q8, .ref q9, .int 0, .int 0, .ref q10, .null, .null, .int 0, .null, .int 0, .null, .null, .null, .int 0, .int 0, .int 0, .null, .int 0, .int 0, .int 0, .int 0, .int 0, .int 0, .null, .null, .null, .null, .null, .int 0, .int 0])), (q1, .inl (cI, 8, .inl (fun _ => 0))), (q2, .inl (cI, 8, .inl (fun _ => 0))), (q3, .inl (cI, 8, .inl (fun _ => 0))), (q4, .inl (cI, 8, .inl (fun _ => 0))), (q5, .inl (cI, 8, .inl (fun _ => 0))), (q6, .inl (cI, 4, .inl (fun _ => 0))), (q7, .inl (cI, 4, .inl (fun _ => 0))), (q8, .inl (cI, 4, .inl (fun _ => 0))), (q9, .inl (cI, 4, .inl (fun _ => 0))), (q10, .inl (cI, 8, .inl (fun _ => 0)))]) := hD1
  replace hS := hS1
  clear hP1 hD1 hS1
  refine lv_aload_n hx hb dX9_init_80 rfl (lv_at hl 0 rfl) ?_
  refine lv_bipush (v := 8) hx hb dX9_init_81 (by decide) ?_
  refine q_newi (N := 8) hx hb hw3 hE hP hD hS hA (by decide) (by decide +kernel) (by decide +kernel) (Nat.le_of_ble_eq_true rfl) (Nat.le_of_ble_eq_true rfl) dX9_init_83 (fun q11 H hP1 hD1 hS1 => ?_)
  replace hP : va_P D vwCl ([(h0, .inr (9, [.ref q1, .ref q2, .ref q3, .ref q4, .ref q5, .ref q6, .ref q7, .ref q8, .ref q9, .int 0, .int 0, .ref q10, .null, .null, .int 0, .null, .int 0, .null, .null, .null, .int 0, .int 0, .int 0, .null, .int 0, .int 0, .int 0, .int 0, .int 0, .int 0, .null, .null, .null, .null, .null, .int 0, .int 0])), (q1, .inl (cI, 8, .inl (fun _ => 0))), (q2, .inl (cI, 8, .inl (fun _ => 0))), (q3, .inl (cI, 8, .inl (fun _ => 0))), (q4, .inl (cI, 8, .inl (fun _ => 0))), (q5, .inl (cI, 8, .inl (fun _ => 0))), (q6, .inl (cI, 4, .inl (fun _ => 0))), (q7, .inl (cI, 4, .inl (fun _ => 0))), (q8, .inl (cI, 4, .inl (fun _ => 0))), (q9, .inl (cI, 4, .inl (fun _ => 0))), (q10, .inl (cI, 8, .inl (fun _ => 0))), (q11, .inl (cI, 8, .inl (fun _ => 0)))]) H := hP1
  replace hD : va_D A ([(h0, .inr (9, [.ref q1, .ref q2, .ref q3, .ref q4, .ref q5, .ref q6, .ref q7, .ref q8, .ref q9, .int 0, .int 0, .ref q10, .null, .null, .int 0, .null, .int 0, .null, .null, .null, .int 0, .int 0, .int 0, .null, .int 0, .int 0, .int 0, .int 0, .int 0, .int 0, .null, .null, .null, .null, .null, .int 0, .int 0])), (q1, .inl (cI, 8, .inl (fun _ => 0))), (q2, .inl (cI, 8, .inl (fun _ => 0))), (q3, .inl (cI, 8, .inl (fun _ => 0))), (q4, .inl (cI, 8, .inl (fun _ => 0))), (q5, .inl (cI, 8, .inl (fun _ => 0))), (q6, .inl (cI, 4, .inl (fun _ => 0))), (q7, .inl (cI, 4, .inl (fun _ => 0))), (q8, .inl (cI, 4, .inl (fun _ => 0))), (q9, .inl (cI, 4, .inl (fun _ => 0))), (q10, .inl (cI, 8, .inl (fun _ => 0))), (q11, .inl (cI, 8, .inl (fun _ => 0)))]) := hD1
  replace hS := hS1
  clear hP1 hD1 hS1
  refine W.widen (k := 11) (n := 72) (Nat.le_of_ble_eq_true rfl) (Nat.le_of_ble_eq_true rfl) ?_
  refine va_putF (D := D) (ci := 9) (v := .ref q11) (ty := .array .int) (C := RX9) (T := TX9) (N := 37) hx hb hts hi9 tyX9 tyX9_ok nmX9 hown hE.1 hP hD hS 0 rfl rfl 12 (by decide) hw14 (fun _ h9 => h9) rfl hin rfl (by decide +kernel) rfl rfl (Nat.le_of_ble_eq_true rfl) dX9_init_85 (fun H locs hP1 hD1 hS1 => ?_)
  replace hP : va_P D vwCl ([(h0, .inr (9, [.ref q1, .ref q2, .ref q3, .ref q4, .ref q5, .ref q6, .ref q7, .ref q8, .ref q9, .int 0, .int 0, .ref q10, .ref q11, .null, .int 0, .null, .int 0, .null, .null, .null, .int 0, .int 0, .int 0, .null, .int 0, .int 0, .int 0, .int 0, .int 0, .int 0, .null, .null, .null, .null, .null, .int 0, .int 0])), (q1, .inl (cI, 8, .inl (fun _ => 0))), (q2, .inl (cI, 8, .inl (fun _ => 0))), (q3, .inl (cI, 8, .inl (fun _ => 0))), (q4, .inl (cI, 8, .inl (fun _ => 0))), (q5, .inl (cI, 8, .inl (fun _ => 0))), (q6, .inl (cI, 4, .inl (fun _ => 0))), (q7, .inl (cI, 4, .inl (fun _ => 0))), (q8, .inl (cI, 4, .inl (fun _ => 0))), (q9, .inl (cI, 4, .inl (fun _ => 0))), (q10, .inl (cI, 8, .inl (fun _ => 0))), (q11, .inl (cI, 8, .inl (fun _ => 0)))]) H := hP1
  replace hD : va_D A ([(h0, .inr (9, [.ref q1, .ref q2, .ref q3, .ref q4, .ref q5, .ref q6, .ref q7, .ref q8, .ref q9, .int 0, .int 0, .ref q10, .ref q11, .null, .int 0, .null, .int 0, .null, .null, .null, .int 0, .int 0, .int 0, .null, .int 0, .int 0, .int 0, .int 0, .int 0, .int 0, .null, .null, .null, .null, .null, .int 0, .int 0])), (q1, .inl (cI, 8, .inl (fun _ => 0))), (q2, .inl (cI, 8, .inl (fun _ => 0))), (q3, .inl (cI, 8, .inl (fun _ => 0))), (q4, .inl (cI, 8, .inl (fun _ => 0))), (q5, .inl (cI, 8, .inl (fun _ => 0))), (q6, .inl (cI, 4, .inl (fun _ => 0))), (q7, .inl (cI, 4, .inl (fun _ => 0))), (q8, .inl (cI, 4, .inl (fun _ => 0))), (q9, .inl (cI, 4, .inl (fun _ => 0))), (q10, .inl (cI, 8, .inl (fun _ => 0))), (q11, .inl (cI, 8, .inl (fun _ => 0)))]) := hD1
  replace hS := hS1
  clear hP1 hD1 hS1
  refine lv_aload_n hx hb dX9_init_88 rfl (lv_at hl 0 rfl) ?_
  refine lv_bipush (v := 8) hx hb dX9_init_89 (by decide) ?_
  refine q_newi (N := 8) hx hb hw3 hE hP hD hS hA (by decide) (by decide +kernel) (by decide +kernel) (Nat.le_of_ble_eq_true rfl) (Nat.le_of_ble_eq_true rfl) dX9_init_91 (fun q12 H hP1 hD1 hS1 => ?_)
  replace hP : va_P D vwCl ([(h0, .inr (9, [.ref q1, .ref q2, .ref q3, .ref q4, .ref q5, .ref q6, .ref q7, .ref q8, .ref q9, .int 0, .int 0, .ref q10, .ref q11, .null, .int 0, .null, .int 0, .null, .null, .null, .int 0, .int 0, .int 0, .null, .int 0, .int 0, .int 0, .int 0, .int 0, .int 0, .null, .null, .null, .null, .null, .int 0, .int 0])), (q1, .inl (cI, 8, .inl (fun _ => 0))), (q2, .inl (cI, 8, .inl (fun _ => 0))), (q3, .inl (cI, 8, .inl (fun _ => 0))), (q4, .inl (cI, 8, .inl (fun _ => 0))), (q5, .inl (cI, 8, .inl (fun _ => 0))), (q6, .inl (cI, 4, .inl (fun _ => 0))), (q7, .inl (cI, 4, .inl (fun _ => 0))), (q8, .inl (cI, 4, .inl (fun _ => 0))), (q9, .inl (cI, 4, .inl (fun _ => 0))), (q10, .inl (cI, 8, .inl (fun _ => 0))), (q11, .inl (cI, 8, .inl (fun _ => 0))), (q12, .inl (cI, 8, .inl (fun _ => 0)))]) H := hP1
  replace hD : va_D A ([(h0, .inr (9, [.ref q1, .ref q2, .ref q3, .ref q4, .ref q5, .ref q6, .ref q7, .ref q8, .ref q9, .int 0, .int 0, .ref q10, .ref q11, .null, .int 0, .null, .int 0, .null, .null, .null, .int 0, .int 0, .int 0, .null, .int 0, .int 0, .int 0, .int 0, .int 0, .int 0, .null, .null, .null, .null, .null, .int 0, .int 0])), (q1, .inl (cI, 8, .inl (fun _ => 0))), (q2, .inl (cI, 8, .inl (fun _ => 0))), (q3, .inl (cI, 8, .inl (fun _ => 0))), (q4, .inl (cI, 8, .inl (fun _ => 0))), (q5, .inl (cI, 8, .inl (fun _ => 0))), (q6, .inl (cI, 4, .inl (fun _ => 0))), (q7, .inl (cI, 4, .inl (fun _ => 0))), (q8, .inl (cI, 4, .inl (fun _ => 0))), (q9, .inl (cI, 4, .inl (fun _ => 0))), (q10, .inl (cI, 8, .inl (fun _ => 0))), (q11, .inl (cI, 8, .inl (fun _ => 0))), (q12, .inl (cI, 8, .inl (fun _ => 0)))]) := hD1
  replace hS := hS1
  clear hP1 hD1 hS1
  refine W.widen (k := 12) (n := 80) (Nat.le_of_ble_eq_true rfl) (Nat.le_of_ble_eq_true rfl) ?_
  refine va_putF (D := D) (ci := 9) (v := .ref q12) (ty := .array .int) (C := RX9) (T := TX9) (N := 37) hx hb hts hi9 tyX9 tyX9_ok nmX9 hown hE.1 hP hD hS 0 rfl rfl 13 (by decide) hw15 (fun _ h9 => h9) rfl hin rfl (by decide +kernel) rfl rfl (Nat.le_of_ble_eq_true rfl) dX9_init_93 (fun H locs hP1 hD1 hS1 => ?_)
  replace hP : va_P D vwCl ([(h0, .inr (9, [.ref q1, .ref q2, .ref q3, .ref q4, .ref q5, .ref q6, .ref q7, .ref q8, .ref q9, .int 0, .int 0, .ref q10, .ref q11, .ref q12, .int 0, .null, .int 0, .null, .null, .null, .int 0, .int 0, .int 0, .null, .int 0, .int 0, .int 0, .int 0, .int 0, .int 0, .null, .null, .null, .null, .null, .int 0, .int 0])), (q1, .inl (cI, 8, .inl (fun _ => 0))), (q2, .inl (cI, 8, .inl (fun _ => 0))), (q3, .inl (cI, 8, .inl (fun _ => 0))), (q4, .inl (cI, 8, .inl (fun _ => 0))), (q5, .inl (cI, 8, .inl (fun _ => 0))), (q6, .inl (cI, 4, .inl (fun _ => 0))), (q7, .inl (cI, 4, .inl (fun _ => 0))), (q8, .inl (cI, 4, .inl (fun _ => 0))), (q9, .inl (cI, 4, .inl (fun _ => 0))), (q10, .inl (cI, 8, .inl (fun _ => 0))), (q11, .inl (cI, 8, .inl (fun _ => 0))), (q12, .inl (cI, 8, .inl (fun _ => 0)))]) H := hP1
  replace hD : va_D A ([(h0, .inr (9, [.ref q1, .ref q2, .ref q3, .ref q4, .ref q5, .ref q6, .ref q7, .ref q8, .ref q9, .int 0, .int 0, .ref q10, .ref q11, .ref q12, .int 0, .null, .int 0, .null, .null, .null, .int 0, .int 0, .int 0, .null, .int 0, .int 0, .int 0, .int 0, .int 0, .int 0, .null, .null, .null, .null, .null, .int 0, .int 0])), (q1, .inl (cI, 8, .inl (fun _ => 0))), (q2, .inl (cI, 8, .inl (fun _ => 0))), (q3, .inl (cI, 8, .inl (fun _ => 0))), (q4, .inl (cI, 8, .inl (fun _ => 0))), (q5, .inl (cI, 8, .inl (fun _ => 0))), (q6, .inl (cI, 4, .inl (fun _ => 0))), (q7, .inl (cI, 4, .inl (fun _ => 0))), (q8, .inl (cI, 4, .inl (fun _ => 0))), (q9, .inl (cI, 4, .inl (fun _ => 0))), (q10, .inl (cI, 8, .inl (fun _ => 0))), (q11, .inl (cI, 8, .inl (fun _ => 0))), (q12, .inl (cI, 8, .inl (fun _ => 0)))]) := hD1
  replace hS := hS1
  clear hP1 hD1 hS1
  refine lv_aload_n hx hb dX9_init_96 rfl (lv_at hl 0 rfl) ?_
  refine lv_bipush (v := 60) hx hb dX9_init_97 (by decide) ?_
  refine q_newi (N := 60) hx hb hw3 hE hP hD hS hA (by decide) (by decide +kernel) (by decide +kernel) (Nat.le_of_ble_eq_true rfl) (Nat.le_of_ble_eq_true rfl) dX9_init_99 (fun q13 H hP1 hD1 hS1 => ?_)
  replace hP : va_P D vwCl ([(h0, .inr (9, [.ref q1, .ref q2, .ref q3, .ref q4, .ref q5, .ref q6, .ref q7, .ref q8, .ref q9, .int 0, .int 0, .ref q10, .ref q11, .ref q12, .int 0, .null, .int 0, .null, .null, .null, .int 0, .int 0, .int 0, .null, .int 0, .int 0, .int 0, .int 0, .int 0, .int 0, .null, .null, .null, .null, .null, .int 0, .int 0])), (q1, .inl (cI, 8, .inl (fun _ => 0))), (q2, .inl (cI, 8, .inl (fun _ => 0))), (q3, .inl (cI, 8, .inl (fun _ => 0))), (q4, .inl (cI, 8, .inl (fun _ => 0))), (q5, .inl (cI, 8, .inl (fun _ => 0))), (q6, .inl (cI, 4, .inl (fun _ => 0))), (q7, .inl (cI, 4, .inl (fun _ => 0))), (q8, .inl (cI, 4, .inl (fun _ => 0))), (q9, .inl (cI, 4, .inl (fun _ => 0))), (q10, .inl (cI, 8, .inl (fun _ => 0))), (q11, .inl (cI, 8, .inl (fun _ => 0))), (q12, .inl (cI, 8, .inl (fun _ => 0))), (q13, .inl (cI, 60, .inl (fun _ => 0)))]) H := hP1
  replace hD : va_D A ([(h0, .inr (9, [.ref q1, .ref q2, .ref q3, .ref q4, .ref q5, .ref q6, .ref q7, .ref q8, .ref q9, .int 0, .int 0, .ref q10, .ref q11, .ref q12, .int 0, .null, .int 0, .null, .null, .null, .int 0, .int 0, .int 0, .null, .int 0, .int 0, .int 0, .int 0, .int 0, .int 0, .null, .null, .null, .null, .null, .int 0, .int 0])), (q1, .inl (cI, 8, .inl (fun _ => 0))), (q2, .inl (cI, 8, .inl (fun _ => 0))), (q3, .inl (cI, 8, .inl (fun _ => 0))), (q4, .inl (cI, 8, .inl (fun _ => 0))), (q5, .inl (cI, 8, .inl (fun _ => 0))), (q6, .inl (cI, 4, .inl (fun _ => 0))), (q7, .inl (cI, 4, .inl (fun _ => 0))), (q8, .inl (cI, 4, .inl (fun _ => 0))), (q9, .inl (cI, 4, .inl (fun _ => 0))), (q10, .inl (cI, 8, .inl (fun _ => 0))), (q11, .inl (cI, 8, .inl (fun _ => 0))), (q12, .inl (cI, 8, .inl (fun _ => 0))), (q13, .inl (cI, 60, .inl (fun _ => 0)))]) := hD1
  replace hS := hS1
  clear hP1 hD1 hS1
  refine W.widen (k := 13) (n := 140) (Nat.le_of_ble_eq_true rfl) (Nat.le_of_ble_eq_true rfl) ?_
  refine va_putF (D := D) (ci := 9) (v := .ref q13) (ty := .array .int) (C := RX9) (T := TX9) (N := 37) hx hb hts hi9 tyX9 tyX9_ok nmX9 hown hE.1 hP hD hS 0 rfl rfl 15 (by decide) hw16 (fun _ h9 => h9) rfl hin rfl (by decide +kernel) rfl rfl (Nat.le_of_ble_eq_true rfl) dX9_init_101 (fun H locs hP1 hD1 hS1 => ?_)
  replace hP : va_P D vwCl ([(h0, .inr (9, [.ref q1, .ref q2, .ref q3, .ref q4, .ref q5, .ref q6, .ref q7, .ref q8, .ref q9, .int 0, .int 0, .ref q10, .ref q11, .ref q12, .int 0, .ref q13, .int 0, .null, .null, .null, .int 0, .int 0, .int 0, .null, .int 0, .int 0, .int 0, .int 0, .int 0, .int 0, .null, .null, .null, .null, .null, .int 0, .int 0])), (q1, .inl (cI, 8, .inl (fun _ => 0))), (q2, .inl (cI, 8, .inl (fun _ => 0))), (q3, .inl (cI, 8, .inl (fun _ => 0))), (q4, .inl (cI, 8, .inl (fun _ => 0))), (q5, .inl (cI, 8, .inl (fun _ => 0))), (q6, .inl (cI, 4, .inl (fun _ => 0))), (q7, .inl (cI, 4, .inl (fun _ => 0))), (q8, .inl (cI, 4, .inl (fun _ => 0))), (q9, .inl (cI, 4, .inl (fun _ => 0))), (q10, .inl (cI, 8, .inl (fun _ => 0))), (q11, .inl (cI, 8, .inl (fun _ => 0))), (q12, .inl (cI, 8, .inl (fun _ => 0))), (q13, .inl (cI, 60, .inl (fun _ => 0)))]) H := hP1
  replace hD : va_D A ([(h0, .inr (9, [.ref q1, .ref q2, .ref q3, .ref q4, .ref q5, .ref q6, .ref q7, .ref q8, .ref q9, .int 0, .int 0, .ref q10, .ref q11, .ref q12, .int 0, .ref q13, .int 0, .null, .null, .null, .int 0, .int 0, .int 0, .null, .int 0, .int 0, .int 0, .int 0, .int 0, .int 0, .null, .null, .null, .null, .null, .int 0, .int 0])), (q1, .inl (cI, 8, .inl (fun _ => 0))), (q2, .inl (cI, 8, .inl (fun _ => 0))), (q3, .inl (cI, 8, .inl (fun _ => 0))), (q4, .inl (cI, 8, .inl (fun _ => 0))), (q5, .inl (cI, 8, .inl (fun _ => 0))), (q6, .inl (cI, 4, .inl (fun _ => 0))), (q7, .inl (cI, 4, .inl (fun _ => 0))), (q8, .inl (cI, 4, .inl (fun _ => 0))), (q9, .inl (cI, 4, .inl (fun _ => 0))), (q10, .inl (cI, 8, .inl (fun _ => 0))), (q11, .inl (cI, 8, .inl (fun _ => 0))), (q12, .inl (cI, 8, .inl (fun _ => 0))), (q13, .inl (cI, 60, .inl (fun _ => 0)))]) := hD1
  replace hS := hS1
  clear hP1 hD1 hS1
  refine lv_aload_n hx hb dX9_init_104 rfl (lv_at hl 0 rfl) ?_
  refine lv_bipush (v := 60) hx hb dX9_init_105 (by decide) ?_
  refine q_newi (N := 60) hx hb hw3 hE hP hD hS hA (by decide) (by decide +kernel) (by decide +kernel) (Nat.le_of_ble_eq_true rfl) (Nat.le_of_ble_eq_true rfl) dX9_init_107 (fun q14 H hP1 hD1 hS1 => ?_)
  replace hP : va_P D vwCl ([(h0, .inr (9, [.ref q1, .ref q2, .ref q3, .ref q4, .ref q5, .ref q6, .ref q7, .ref q8, .ref q9, .int 0, .int 0, .ref q10, .ref q11, .ref q12, .int 0, .ref q13, .int 0, .null, .null, .null, .int 0, .int 0, .int 0, .null, .int 0, .int 0, .int 0, .int 0, .int 0, .int 0, .null, .null, .null, .null, .null, .int 0, .int 0])), (q1, .inl (cI, 8, .inl (fun _ => 0))), (q2, .inl (cI, 8, .inl (fun _ => 0))), (q3, .inl (cI, 8, .inl (fun _ => 0))), (q4, .inl (cI, 8, .inl (fun _ => 0))), (q5, .inl (cI, 8, .inl (fun _ => 0))), (q6, .inl (cI, 4, .inl (fun _ => 0))), (q7, .inl (cI, 4, .inl (fun _ => 0))), (q8, .inl (cI, 4, .inl (fun _ => 0))), (q9, .inl (cI, 4, .inl (fun _ => 0))), (q10, .inl (cI, 8, .inl (fun _ => 0))), (q11, .inl (cI, 8, .inl (fun _ => 0))), (q12, .inl (cI, 8, .inl (fun _ => 0))), (q13, .inl (cI, 60, .inl (fun _ => 0))), (q14, .inl (cI, 60, .inl (fun _ => 0)))]) H := hP1
  replace hD : va_D A ([(h0, .inr (9, [.ref q1, .ref q2, .ref q3, .ref q4, .ref q5, .ref q6, .ref q7, .ref q8, .ref q9, .int 0, .int 0, .ref q10, .ref q11, .ref q12, .int 0, .ref q13, .int 0, .null, .null, .null, .int 0, .int 0, .int 0, .null, .int 0, .int 0, .int 0, .int 0, .int 0, .int 0, .null, .null, .null, .null, .null, .int 0, .int 0])), (q1, .inl (cI, 8, .inl (fun _ => 0))), (q2, .inl (cI, 8, .inl (fun _ => 0))), (q3, .inl (cI, 8, .inl (fun _ => 0))), (q4, .inl (cI, 8, .inl (fun _ => 0))), (q5, .inl (cI, 8, .inl (fun _ => 0))), (q6, .inl (cI, 4, .inl (fun _ => 0))), (q7, .inl (cI, 4, .inl (fun _ => 0))), (q8, .inl (cI, 4, .inl (fun _ => 0))), (q9, .inl (cI, 4, .inl (fun _ => 0))), (q10, .inl (cI, 8, .inl (fun _ => 0))), (q11, .inl (cI, 8, .inl (fun _ => 0))), (q12, .inl (cI, 8, .inl (fun _ => 0))), (q13, .inl (cI, 60, .inl (fun _ => 0))), (q14, .inl (cI, 60, .inl (fun _ => 0)))]) := hD1
  replace hS := hS1
  clear hP1 hD1 hS1
  refine W.widen (k := 14) (n := 200) (Nat.le_of_ble_eq_true rfl) (Nat.le_of_ble_eq_true rfl) ?_
  refine va_putF (D := D) (ci := 9) (v := .ref q14) (ty := .array .int) (C := RX9) (T := TX9) (N := 37) hx hb hts hi9 tyX9 tyX9_ok nmX9 hown hE.1 hP hD hS 0 rfl rfl 17 (by decide) hw17 (fun _ h9 => h9) rfl hin rfl (by decide +kernel) rfl rfl (Nat.le_of_ble_eq_true rfl) dX9_init_109 (fun H locs hP1 hD1 hS1 => ?_)
  replace hP : va_P D vwCl ([(h0, .inr (9, [.ref q1, .ref q2, .ref q3, .ref q4, .ref q5, .ref q6, .ref q7, .ref q8, .ref q9, .int 0, .int 0, .ref q10, .ref q11, .ref q12, .int 0, .ref q13, .int 0, .ref q14, .null, .null, .int 0, .int 0, .int 0, .null, .int 0, .int 0, .int 0, .int 0, .int 0, .int 0, .null, .null, .null, .null, .null, .int 0, .int 0])), (q1, .inl (cI, 8, .inl (fun _ => 0))), (q2, .inl (cI, 8, .inl (fun _ => 0))), (q3, .inl (cI, 8, .inl (fun _ => 0))), (q4, .inl (cI, 8, .inl (fun _ => 0))), (q5, .inl (cI, 8, .inl (fun _ => 0))), (q6, .inl (cI, 4, .inl (fun _ => 0))), (q7, .inl (cI, 4, .inl (fun _ => 0))), (q8, .inl (cI, 4, .inl (fun _ => 0))), (q9, .inl (cI, 4, .inl (fun _ => 0))), (q10, .inl (cI, 8, .inl (fun _ => 0))), (q11, .inl (cI, 8, .inl (fun _ => 0))), (q12, .inl (cI, 8, .inl (fun _ => 0))), (q13, .inl (cI, 60, .inl (fun _ => 0))), (q14, .inl (cI, 60, .inl (fun _ => 0)))]) H := hP1
  replace hD : va_D A ([(h0, .inr (9, [.ref q1, .ref q2, .ref q3, .ref q4, .ref q5, .ref q6, .ref q7, .ref q8, .ref q9, .int 0, .int 0, .ref q10, .ref q11, .ref q12, .int 0, .ref q13, .int 0, .ref q14, .null, .null, .int 0, .int 0, .int 0, .null, .int 0, .int 0, .int 0, .int 0, .int 0, .int 0, .null, .null, .null, .null, .null, .int 0, .int 0])), (q1, .inl (cI, 8, .inl (fun _ => 0))), (q2, .inl (cI, 8, .inl (fun _ => 0))), (q3, .inl (cI, 8, .inl (fun _ => 0))), (q4, .inl (cI, 8, .inl (fun _ => 0))), (q5, .inl (cI, 8, .inl (fun _ => 0))), (q6, .inl (cI, 4, .inl (fun _ => 0))), (q7, .inl (cI, 4, .inl (fun _ => 0))), (q8, .inl (cI, 4, .inl (fun _ => 0))), (q9, .inl (cI, 4, .inl (fun _ => 0))), (q10, .inl (cI, 8, .inl (fun _ => 0))), (q11, .inl (cI, 8, .inl (fun _ => 0))), (q12, .inl (cI, 8, .inl (fun _ => 0))), (q13, .inl (cI, 60, .inl (fun _ => 0))), (q14, .inl (cI, 60, .inl (fun _ => 0)))]) := hD1
  replace hS := hS1
  clear hP1 hD1 hS1
  refine lv_aload_n hx hb dX9_init_112 rfl (lv_at hl 0 rfl) ?_
  refine lv_bipush (v := 60) hx hb dX9_init_113 (by decide) ?_
  refine q_newi (N := 60) hx hb hw3 hE hP hD hS hA (by decide) (by decide +kernel) (by decide +kernel) (Nat.le_of_ble_eq_true rfl) (Nat.le_of_ble_eq_true rfl) dX9_init_115 (fun q15 H hP1 hD1 hS1 => ?_)
  replace hP : va_P D vwCl ([(h0, .inr (9, [.ref q1, .ref q2, .ref q3, .ref q4, .ref q5, .ref q6, .ref q7, .ref q8, .ref q9, .int 0, .int 0, .ref q10, .ref q11, .ref q12, .int 0, .ref q13, .int 0, .ref q14, .null, .null, .int 0, .int 0, .int 0, .null, .int 0, .int 0, .int 0, .int 0, .int 0, .int 0, .null, .null, .null, .null, .null, .int 0, .int 0])), (q1, .inl (cI, 8, .inl (fun _ => 0))), (q2, .inl (cI, 8, .inl (fun _ => 0))), (q3, .inl (cI, 8, .inl (fun _ => 0))), (q4, .inl (cI, 8, .inl (fun _ => 0))), (q5, .inl (cI, 8, .inl (fun _ => 0))), (q6, .inl (cI, 4, .inl (fun _ => 0))), (q7, .inl (cI, 4, .inl (fun _ => 0))), (q8, .inl (cI, 4, .inl (fun _ => 0))), (q9, .inl (cI, 4, .inl (fun _ => 0))), (q10, .inl (cI, 8, .inl (fun _ => 0))), (q11, .inl (cI, 8, .inl (fun _ => 0))), (q12, .inl (cI, 8, .inl (fun _ => 0))), (q13, .inl (cI, 60, .inl (fun _ => 0))), (q14, .inl (cI, 60, .inl (fun _ => 0))), (q15, .inl (cI, 60, .inl (fun _ => 0)))]) H := hP1
  replace hD : va_D A ([(h0, .inr (9, [.ref q1, .ref q2, .ref q3, .ref q4, .ref q5, .ref q6, .ref q7, .ref q8, .ref q9, .int 0, .int 0, .ref q10, .ref q11, .ref q12, .int 0, .ref q13, .int 0, .ref q14, .null, .null, .int 0, .int 0, .int 0, .null, .int 0, .int 0, .int 0, .int 0, .int 0, .int 0, .null, .null, .null, .null, .null, .int 0, .int 0])), (q1, .inl (cI, 8, .inl (fun _ => 0))), (q2, .inl (cI, 8, .inl (fun _ => 0))), (q3, .inl (cI, 8, .inl (fun _ => 0))), (q4, .inl (cI, 8, .inl (fun _ => 0))), (q5, .inl (cI, 8, .inl (fun _ => 0))), (q6, .inl (cI, 4, .inl (fun _ => 0))), (q7, .inl (cI, 4, .inl (fun _ => 0))), (q8, .inl (cI, 4, .inl (fun _ => 0))), (q9, .inl (cI, 4, .inl (fun _ => 0))), (q10, .inl (cI, 8, .inl (fun _ => 0))), (q11, .inl (cI, 8, .inl (fun _ => 0))), (q12, .inl (cI, 8, .inl (fun _ => 0))), (q13, .inl (cI, 60, .inl (fun _ => 0))), (q14, .inl (cI, 60, .inl (fun _ => 0))), (q15, .inl (cI, 60, .inl (fun _ => 0)))]) := hD1
  replace hS := hS1
  clear hP1 hD1 hS1
  refine W.widen (k := 15) (n := 260) (Nat.le_of_ble_eq_true rfl) (Nat.le_of_ble_eq_true rfl) ?_
  refine va_putF (D := D) (ci := 9) (v := .ref q15) (ty := .array .int) (C := RX9) (T := TX9) (N := 37) hx hb hts hi9 tyX9 tyX9_ok nmX9 hown hE.1 hP hD hS 0 rfl rfl 18 (by decide) hw18 (fun _ h9 => h9) rfl hin rfl (by decide +kernel) rfl rfl (Nat.le_of_ble_eq_true rfl) dX9_init_117 (fun H locs hP1 hD1 hS1 => ?_)
  replace hP : va_P D vwCl ([(h0, .inr (9, [.ref q1, .ref q2, .ref q3, .ref q4, .ref q5, .ref q6, .ref q7, .ref q8, .ref q9, .int 0, .int 0, .ref q10, .ref q11, .ref q12, .int 0, .ref q13, .int 0, .ref q14, .ref q15, .null, .int 0, .int 0, .int 0, .null, .int 0, .int 0, .int 0, .int 0, .int 0, .int 0, .null, .null, .null, .null, .null, .int 0, .int 0])), (q1, .inl (cI, 8, .inl (fun _ => 0))), (q2, .inl (cI, 8, .inl (fun _ => 0))), (q3, .inl (cI, 8, .inl (fun _ => 0))), (q4, .inl (cI, 8, .inl (fun _ => 0))), (q5, .inl (cI, 8, .inl (fun _ => 0))), (q6, .inl (cI, 4, .inl (fun _ => 0))), (q7, .inl (cI, 4, .inl (fun _ => 0))), (q8, .inl (cI, 4, .inl (fun _ => 0))), (q9, .inl (cI, 4, .inl (fun _ => 0))), (q10, .inl (cI, 8, .inl (fun _ => 0))), (q11, .inl (cI, 8, .inl (fun _ => 0))), (q12, .inl (cI, 8, .inl (fun _ => 0))), (q13, .inl (cI, 60, .inl (fun _ => 0))), (q14, .inl (cI, 60, .inl (fun _ => 0))), (q15, .inl (cI, 60, .inl (fun _ => 0)))]) H := hP1
  replace hD : va_D A ([(h0, .inr (9, [.ref q1, .ref q2, .ref q3, .ref q4, .ref q5, .ref q6, .ref q7, .ref q8, .ref q9, .int 0, .int 0, .ref q10, .ref q11, .ref q12, .int 0, .ref q13, .int 0, .ref q14, .ref q15, .null, .int 0, .int 0, .int 0, .null, .int 0, .int 0, .int 0, .int 0, .int 0, .int 0, .null, .null, .null, .null, .null, .int 0, .int 0])), (q1, .inl (cI, 8, .inl (fun _ => 0))), (q2, .inl (cI, 8, .inl (fun _ => 0))), (q3, .inl (cI, 8, .inl (fun _ => 0))), (q4, .inl (cI, 8, .inl (fun _ => 0))), (q5, .inl (cI, 8, .inl (fun _ => 0))), (q6, .inl (cI, 4, .inl (fun _ => 0))), (q7, .inl (cI, 4, .inl (fun _ => 0))), (q8, .inl (cI, 4, .inl (fun _ => 0))), (q9, .inl (cI, 4, .inl (fun _ => 0))), (q10, .inl (cI, 8, .inl (fun _ => 0))), (q11, .inl (cI, 8, .inl (fun _ => 0))), (q12, .inl (cI, 8, .inl (fun _ => 0))), (q13, .inl (cI, 60, .inl (fun _ => 0))), (q14, .inl (cI, 60, .inl (fun _ => 0))), (q15, .inl (cI, 60, .inl (fun _ => 0)))]) := hD1
  replace hS := hS1
  clear hP1 hD1 hS1
  refine lv_aload_n hx hb dX9_init_120 rfl (lv_at hl 0 rfl) ?_
  refine lv_bipush (v := 60) hx hb dX9_init_121 (by decide) ?_
  refine q_newi (N := 60) hx hb hw3 hE hP hD hS hA (by decide) (by decide +kernel) (by decide +kernel) (Nat.le_of_ble_eq_true rfl) (Nat.le_of_ble_eq_true rfl) dX9_init_123 (fun q16 H hP1 hD1 hS1 => ?_)
  replace hP : va_P D vwCl ([(h0, .inr (9, [.ref q1, .ref q2, .ref q3, .ref q4, .ref q5, .ref q6, .ref q7, .ref q8, .ref q9, .int 0, .int 0, .ref q10, .ref q11, .ref q12, .int 0, .ref q13, .int 0, .ref q14, .ref q15, .null, .int 0, .int 0, .int 0, .null, .int 0, .int 0, .int 0, .int 0, .int 0, .int 0, .null, .null, .null, .null, .null, .int 0, .int 0])), (q1, .inl (cI, 8, .inl (fun _ => 0))), (q2, .inl (cI, 8, .inl (fun _ => 0))), (q3, .inl (cI, 8, .inl (fun _ => 0))), (q4, .inl (cI, 8, .inl (fun _ => 0))), (q5, .inl (cI, 8, .inl (fun _ => 0))), (q6, .inl (cI, 4, .inl (fun _ => 0))), (q7, .inl (cI, 4, .inl (fun _ => 0))), (q8, .inl (cI, 4, .inl (fun _ => 0))), (q9, .inl (cI, 4, .inl (fun _ => 0))), (q10, .inl (cI, 8, .inl (fun _ => 0))), (q11, .inl (cI, 8, .inl (fun _ => 0))), (q12, .inl (cI, 8, .inl (fun _ => 0))), (q13, .inl (cI, 60, .inl (fun _ => 0))), (q14, .inl (cI, 60, .inl (fun _ => 0))), (q15, .inl (cI, 60, .inl (fun _ => 0))), (q16, .inl (cI, 60, .inl (fun _ => 0)))]) H := hP1
  replace hD : va_D A ([(h0, .inr (9, [.ref q1, .ref q2, .ref q3, .ref q4, .ref q5, .ref q6, .ref q7, .ref q8, .ref q9, .int 0, .int 0, .ref q10, .ref q11, .ref q12, .int 0, .ref q13, .int 0, .ref q14, .ref q15, .null, .int 0, .int 0, .int 0, .null, .int 0, .int 0, .int 0, .int 0, .int 0, .int 0, .null, .null, .null, .null, .null, .int 0, .int 0])), (q1, .inl (cI, 8, .inl (fun _ => 0))), (q2, .inl (cI, 8, .inl (fun _ => 0))), (q3, .inl (cI, 8, .inl (fun _ => 0))), (q4, .inl (cI, 8, .inl (fun _ => 0))), (q5, .inl (cI, 8, .inl (fun _ => 0))), (q6, .inl (cI, 4, .inl (fun _ => 0))), (q7, .inl (cI, 4, .inl (fun _ => 0))), (q8, .inl (cI, 4, .inl (fun _ => 0))), (q9, .inl (cI, 4, .inl (fun _ => 0))), (q10, .inl (cI, 8, .inl (fun _ => 0))), (q11, .inl (cI, 8, .inl (fun _ => 0))), (q12, .inl (cI, 8, .inl (fun _ => 0))), (q13, .inl (cI, 60, .inl (fun _ => 0))), (q14, .inl (cI, 60, .inl (fun _ => 0))), (q15, .inl (cI, 60, .inl (fun _ => 0))), (q16, .inl (cI, 60, .inl (fun _ => 0)))]) := hD1
  replace hS := hS1
  clear hP1 hD1 hS1
  refine W.widen (k := 16) (n := 320) (Nat.le_of_ble_eq_true rfl) (Nat.le_of_ble_eq_true rfl) ?_
  refine va_putF (D := D) (ci := 9) (v := .ref q16) (ty := .array .int) (C := RX9) (T := TX9) (N := 37) hx hb hts hi9 tyX9 tyX9_ok nmX9 hown hE.1 hP hD hS 0 rfl rfl 19 (by decide) hw19 (fun _ h9 => h9) rfl hin rfl (by decide +kernel) rfl rfl (Nat.le_of_ble_eq_true rfl) dX9_init_125 (fun H locs hP1 hD1 hS1 => ?_)
  replace hP : va_P D vwCl ([(h0, .inr (9, [.ref q1, .ref q2, .ref q3, .ref q4, .ref q5, .ref q6, .ref q7, .ref q8, .ref q9, .int 0, .int 0, .ref q10, .ref q11, .ref q12, .int 0, .ref q13, .int 0, .ref q14, .ref q15, .ref q16, .int 0, .int 0, .int 0, .null, .int 0, .int 0, .int 0, .int 0, .int 0, .int 0, .null, .null, .null, .null, .null, .int 0, .int 0])), (q1, .inl (cI, 8, .inl (fun _ => 0))), (q2, .inl (cI, 8, .inl (fun _ => 0))), (q3, .inl (cI, 8, .inl (fun _ => 0))), (q4, .inl (cI, 8, .inl (fun _ => 0))), (q5, .inl (cI, 8, .inl (fun _ => 0))), (q6, .inl (cI, 4, .inl (fun _ => 0))), (q7, .inl (cI, 4, .inl (fun _ => 0))), (q8, .inl (cI, 4, .inl (fun _ => 0))), (q9, .inl (cI, 4, .inl (fun _ => 0))), (q10, .inl (cI, 8, .inl (fun _ => 0))), (q11, .inl (cI, 8, .inl (fun _ => 0))), (q12, .inl (cI, 8, .inl (fun _ => 0))), (q13, .inl (cI, 60, .inl (fun _ => 0))), (q14, .inl (cI, 60, .inl (fun _ => 0))), (q15, .inl (cI, 60, .inl (fun _ => 0))), (q16, .inl (cI, 60, .inl (fun _ => 0)))]) H := hP1
  replace hD : va_D A ([(h0, .inr (9, [.ref q1, .ref q2, .ref q3, .ref q4, .ref q5, .ref q6, .ref q7, .ref q8, .ref q9, .int 0, .int 0, .ref q10, .ref q11, .ref q12, .int 0, .ref q13, .int 0, .ref q14, .ref q15, .ref q16, .int 0, .int 0, .int 0, .null, .int 0, .int 0, .int 0, .int 0, .int 0, .int 0, .null, .null, .null, .null, .null, .int 0, .int 0])), (q1, .inl (cI, 8, .inl (fun _ => 0))), (q2, .inl (cI, 8, .inl (fun _ => 0))), (q3, .inl (cI, 8, .inl (fun _ => 0))), (q4, .inl (cI, 8, .inl (fun _ => 0))), (q5, .inl (cI, 8, .inl (fun _ => 0))), (q6, .inl (cI, 4, .inl (fun _ => 0))), (q7, .inl (cI, 4, .inl (fun _ => 0))), (q8, .inl (cI, 4, .inl (fun _ => 0))), (q9, .inl (cI, 4, .inl (fun _ => 0))), (q10, .inl (cI, 8, .inl (fun _ => 0))), (q11, .inl (cI, 8, .inl (fun _ => 0))), (q12, .inl (cI, 8, .inl (fun _ => 0))), (q13, .inl (cI, 60, .inl (fun _ => 0))), (q14, .inl (cI, 60, .inl (fun _ => 0))), (q15, .inl (cI, 60, .inl (fun _ => 0))), (q16, .inl (cI, 60, .inl (fun _ => 0)))]) := hD1
  replace hS := hS1
  clear hP1 hD1 hS1
  refine lv_aload_n hx hb dX9_init_128 rfl (lv_at hl 0 rfl) ?_
  refine lv_bipush (v := 58) hx hb dX9_init_129 (by decide) ?_
  refine q_newi (N := 58) hx hb hw3 hE hP hD hS hA (by decide) (by decide +kernel) (by decide +kernel) (Nat.le_of_ble_eq_true rfl) (Nat.le_of_ble_eq_true rfl) dX9_init_131 (fun q17 H hP1 hD1 hS1 => ?_)
  replace hP : va_P D vwCl ([(h0, .inr (9, [.ref q1, .ref q2, .ref q3, .ref q4, .ref q5, .ref q6, .ref q7, .ref q8, .ref q9, .int 0, .int 0, .ref q10, .ref q11, .ref q12, .int 0, .ref q13, .int 0, .ref q14, .ref q15, .ref q16, .int 0, .int 0, .int 0, .null, .int 0, .int 0, .int 0, .int 0, .int 0, .int 0, .null, .null, .null, .null, .null, .int 0, .int 0])), (q1, .inl (cI, 8, .inl (fun _ => 0))), (q2, .inl (cI, 8, .inl (fun _ => 0))), (q3, .inl (cI, 8, .inl (fun _ => 0))), (q4, .inl (cI, 8, .inl (fun _ => 0))), (q5, .inl (cI, 8, .inl (fun _ => 0))), (q6, .inl (cI, 4, .inl (fun _ => 0))), (q7, .inl (cI, 4, .inl (fun _ => 0))), (q8, .inl (cI, 4, .inl (fun _ => 0))), (q9, .inl (cI, 4, .inl (fun _ => 0))), (q10, .inl (cI, 8, .inl (fun _ => 0))), (q11, .inl (cI, 8, .inl (fun _ => 0))), (q12, .inl (cI, 8, .inl (fun _ => 0))), (q13, .inl (cI, 60, .inl (fun _ => 0))), (q14, .inl (cI, 60, .inl (fun _ => 0))), (q15, .inl (cI, 60, .inl (fun _ => 0))), (q16, .inl (cI, 60, .inl (fun _ => 0))), (q17, .inl (cI, 58, .inl (fun _ => 0)))]) H := hP1
  replace hD : va_D A ([(h0, .inr (9, [.ref q1, .ref q2, .ref q3, .ref q4, .ref q5, .ref q6, .ref q7, .ref q8, .ref q9, .int 0, .int 0, .ref q10, .ref q11, .ref q12, .int 0, .ref q13, .int 0, .ref q14, .ref q15, .ref q16, .int 0, .int 0, .int 0, .null, .int 0, .int 0, .int 0, .int 0, .int 0, .int 0, .null, .null, .null, .null, .null, .int 0, .int 0])), (q1, .inl (cI, 8, .inl (fun _ => 0))), (q2, .inl (cI, 8, .inl (fun _ => 0))), (q3, .inl (cI, 8, .inl (fun _ => 0))), (q4, .inl (cI, 8, .inl (fun _ => 0))), (q5, .inl (cI, 8, .inl (fun _ => 0))), (q6, .inl (cI, 4, .inl (fun _ => 0))), (q7, .inl (cI, 4, .inl (fun _ => 0))), (q8, .inl (cI, 4, .inl (fun _ => 0))), (q9, .inl (cI, 4, .inl (fun _ => 0))), (q10, .inl (cI, 8, .inl (fun _ => 0))), (q11, .inl (cI, 8, .inl (fun _ => 0))), (q12, .inl (cI, 8, .inl (fun _ => 0))), (q13, .inl (cI, 60, .inl (fun _ => 0))), (q14, .inl (cI, 60, .inl (fun _ => 0))), (q15, .inl (cI, 60, .inl (fun _ => 0))), (q16, .inl (cI, 60, .inl (fun _ => 0))), (q17, .inl (cI, 58, .inl (fun _ => 0)))]) := hD1
  replace hS := hS1
  clear hP1 hD1 hS1
  refine W.widen (k := 17) (n := 378) (Nat.le_of_ble_eq_true rfl) (Nat.le_of_ble_eq_true rfl) ?_
  refine va_putF (D := D) (ci := 9) (v := .ref q17) (ty := .array .int) (C := RX9) (T := TX9) (N := 37) hx hb hts hi9 tyX9 tyX9_ok nmX9 hown hE.1 hP hD hS 0 rfl rfl 23 (by decide) hw20 (fun _ h9 => h9) rfl hin rfl (by decide +kernel) rfl rfl (Nat.le_of_ble_eq_true rfl) dX9_init_133 (fun H locs hP1 hD1 hS1 => ?_)
  replace hP : va_P D vwCl ([(h0, .inr (9, [.ref q1, .ref q2, .ref q3, .ref q4, .ref q5, .ref q6, .ref q7, .ref q8, .ref q9, .int 0, .int 0, .ref q10, .ref q11, .ref q12, .int 0, .ref q13, .int 0, .ref q14, .ref q15, .ref q16, .int 0, .int 0, .int 0, .ref q17, .int 0, .int 0, .int 0, .int 0, .int 0, .int 0, .null, .null, .null, .null, .null, .int 0, .int 0])), (q1, .inl (cI, 8, .inl (fun _ => 0))), (q2, .inl (cI, 8, .inl (fun _ => 0))), (q3, .inl (cI, 8, .inl (fun _ => 0))), (q4, .inl (cI, 8, .inl (fun _ => 0))), (q5, .inl (cI, 8, .inl (fun _ => 0))), (q6, .inl (cI, 4, .inl (fun _ => 0))), (q7, .inl (cI, 4, .inl (fun _ => 0))), (q8, .inl (cI, 4, .inl (fun _ => 0))), (q9, .inl (cI, 4, .inl (fun _ => 0))), (q10, .inl (cI, 8, .inl (fun _ => 0))), (q11, .inl (cI, 8, .inl (fun _ => 0))), (q12, .inl (cI, 8, .inl (fun _ => 0))), (q13, .inl (cI, 60, .inl (fun _ => 0))), (q14, .inl (cI, 60, .inl (fun _ => 0))), (q15, .inl (cI, 60, .inl (fun _ => 0))), (q16, .inl (cI, 60, .inl (fun _ => 0))), (q17, .inl (cI, 58, .inl (fun _ => 0)))]) H := hP1
  replace hD : va_D A ([(h0, .inr (9, [.ref q1, .ref q2, .ref q3, .ref q4, .ref q5, .ref q6, .ref q7, .ref q8, .ref q9, .int 0, .int 0, .ref q10, .ref q11, .ref q12, .int 0, .ref q13, .int 0, .ref q14, .ref q15, .ref q16, .int 0, .int 0, .int 0, .ref q17, .int 0, .int 0, .int 0, .int 0, .int 0, .int 0, .null, .null, .null, .null, .null, .int 0, .int 0])), (q1, .inl (cI, 8, .inl (fun _ => 0))), (q2, .inl (cI, 8, .inl (fun _ => 0))), (q3, .inl (cI, 8, .inl (fun _ => 0))), (q4, .inl (cI, 8, .inl (fun _ => 0))), (q5, .inl (cI, 8, .inl (fun _ => 0))), (q6, .inl (cI, 4, .inl (fun _ => 0))), (q7, .inl (cI, 4, .inl (fun _ => 0))), (q8, .inl (cI, 4, .inl (fun _ => 0))), (q9, .inl (cI, 4, .inl (fun _ => 0))), (q10, .inl (cI, 8, .inl (fun _ => 0))), (q11, .inl (cI, 8, .inl (fun _ => 0))), (q12, .inl (cI, 8, .inl (fun _ => 0))), (q13, .inl (cI, 60, .inl (fun _ => 0))), (q14, .inl (cI, 60, .inl (fun _ => 0))), (q15, .inl (cI, 60, .inl (fun _ => 0))), (q16, .inl (cI, 60, .inl (fun _ => 0))), (q17, .inl (cI, 58, .inl (fun _ => 0)))]) := hD1
  replace hS := hS1
  clear hP1 hD1 hS1
  refine lv_aload_n hx hb dX9_init_136 rfl (lv_at hl 0 rfl) ?_
  refine lv_sipush (v := 2048) hx hb dX9_init_137 (by decide +kernel) ?_
  refine q_newi (N := 2048) hx hb hw3 hE hP hD hS hA (by decide) (by decide +kernel) (by decide +kernel) (Nat.le_of_ble_eq_true rfl) (Nat.le_of_ble_eq_true rfl) dX9_init_140 (fun q18 H hP1 hD1 hS1 => ?_)
  replace hP : va_P D vwCl ([(h0, .inr (9, [.ref q1, .ref q2, .ref q3, .ref q4, .ref q5, .ref q6, .ref q7, .ref q8, .ref q9, .int 0, .int 0, .ref q10, .ref q11, .ref q12, .int 0, .ref q13, .int 0, .ref q14, .ref q15, .ref q16, .int 0, .int 0, .int 0, .ref q17, .int 0, .int 0, .int 0, .int 0, .int 0, .int 0, .null, .null, .null, .null, .null, .int 0, .int 0])), (q1, .inl (cI, 8, .inl (fun _ => 0))), (q2, .inl (cI, 8, .inl (fun _ => 0))), (q3, .inl (cI, 8, .inl (fun _ => 0))), (q4, .inl (cI, 8, .inl (fun _ => 0))), (q5, .inl (cI, 8, .inl (fun _ => 0))), (q6, .inl (cI, 4, .inl (fun _ => 0))), (q7, .inl (cI, 4, .inl (fun _ => 0))), (q8, .inl (cI, 4, .inl (fun _ => 0))), (q9, .inl (cI, 4, .inl (fun _ => 0))), (q10, .inl (cI, 8, .inl (fun _ => 0))), (q11, .inl (cI, 8, .inl (fun _ => 0))), (q12, .inl (cI, 8, .inl (fun _ => 0))), (q13, .inl (cI, 60, .inl (fun _ => 0))), (q14, .inl (cI, 60, .inl (fun _ => 0))), (q15, .inl (cI, 60, .inl (fun _ => 0))), (q16, .inl (cI, 60, .inl (fun _ => 0))), (q17, .inl (cI, 58, .inl (fun _ => 0))), (q18, .inl (cI, 2048, .inl (fun _ => 0)))]) H := hP1
  replace hD : va_D A ([(h0, .inr (9, [.ref q1, .ref q2, .ref q3, .ref q4, .ref q5, .ref q6, .ref q7, .ref q8, .ref q9, .int 0, .int 0, .ref q10, .ref q11, .ref q12, .int 0, .ref q13, .int 0, .ref q14, .ref q15, .ref q16, .int 0, .int 0, .int 0, .ref q17, .int 0, .int 0, .int 0, .int 0, .int 0, .int 0, .null, .null, .null, .null, .null, .int 0, .int 0])), (q1, .inl (cI, 8, .inl (fun _ => 0))), (q2, .inl (cI, 8, .inl (fun _ => 0))), (q3, .inl (cI, 8, .inl (fun _ => 0))), (q4, .inl (cI, 8, .inl (fun _ => 0))), (q5, .inl (cI, 8, .inl (fun _ => 0))), (q6, .inl (cI, 4, .inl (fun _ => 0))), (q7, .inl (cI, 4, .inl (fun _ => 0))), (q8, .inl (cI, 4, .inl (fun _ => 0))), (q9, .inl (cI, 4, .inl (fun _ => 0))), (q10, .inl (cI, 8, .inl (fun _ => 0))), (q11, .inl (cI, 8, .inl (fun _ => 0))), (q12, .inl (cI, 8, .inl (fun _ => 0))), (q13, .inl (cI, 60, .inl (fun _ => 0))), (q14, .inl (cI, 60, .inl (fun _ => 0))), (q15, .inl (cI, 60, .inl (fun _ => 0))), (q16, .inl (cI, 60, .inl (fun _ => 0))), (q17, .inl (cI, 58, .inl (fun _ => 0))), (q18, .inl (cI, 2048, .inl (fun _ => 0)))]) := hD1
  replace hS := hS1
  clear hP1 hD1 hS1
  refine W.widen (k := 18) (n := 2426) (Nat.le_of_ble_eq_true rfl) (Nat.le_of_ble_eq_true rfl) ?_
  refine va_putF (D := D) (ci := 9) (v := .ref q18) (ty := .array .int) (C := RX9) (T := TX9) (N := 37) hx hb hts hi9 tyX9 tyX9_ok nmX9 hown hE.1 hP hD hS 0 rfl rfl 30 (by decide) hw21 (fun _ h9 => h9) rfl hin rfl (by decide +kernel) rfl rfl (Nat.le_of_ble_eq_true rfl) dX9_init_142 (fun H locs hP1 hD1 hS1 => ?_)
  replace hP : va_P D vwCl ([(h0, .inr (9, [.ref q1, .ref q2, .ref q3, .ref q4, .ref q5, .ref q6, .ref q7, .ref q8, .ref q9, .int 0, .int 0, .ref q10, .ref q11, .ref q12, .int 0, .ref q13, .int 0, .ref q14, .ref q15, .ref q16, .int 0, .int 0, .int 0, .ref q17, .int 0, .int 0, .int 0, .int 0, .int 0, .int 0, .ref q18, .null, .null, .null, .null, .int 0, .int 0])), (q1, .inl (cI, 8, .inl (fun _ => 0))), (q2, .inl (cI, 8, .inl (fun _ => 0))), (q3, .inl (cI, 8, .inl (fun _ => 0))), (q4, .inl (cI, 8, .inl (fun _ => 0))), (q5, .inl (cI, 8, .inl (fun _ => 0))), (q6, .inl (cI, 4, .inl (fun _ => 0))), (q7, .inl (cI, 4, .inl (fun _ => 0))), (q8, .inl (cI, 4, .inl (fun _ => 0))), (q9, .inl (cI, 4, .inl (fun _ => 0))), (q10, .inl (cI, 8, .inl (fun _ => 0))), (q11, .inl (cI, 8, .inl (fun _ => 0))), (q12, .inl (cI, 8, .inl (fun _ => 0))), (q13, .inl (cI, 60, .inl (fun _ => 0))), (q14, .inl (cI, 60, .inl (fun _ => 0))), (q15, .inl (cI, 60, .inl (fun _ => 0))), (q16, .inl (cI, 60, .inl (fun _ => 0))), (q17, .inl (cI, 58, .inl (fun _ => 0))), (q18, .inl (cI, 2048, .inl (fun _ => 0)))]) H := hP1
  replace hD : va_D A ([(h0, .inr (9, [.ref q1, .ref q2, .ref q3, .ref q4, .ref q5, .ref q6, .ref q7, .ref q8, .ref q9, .int 0, .int 0, .ref q10, .ref q11, .ref q12, .int 0, .ref q13, .int 0, .ref q14, .ref q15, .ref q16, .int 0, .int 0, .int 0, .ref q17, .int 0, .int 0, .int 0, .int 0, .int 0, .int 0, .ref q18, .null, .null, .null, .null, .int 0, .int 0])), (q1, .inl (cI, 8, .inl (fun _ => 0))), (q2, .inl (cI, 8, .inl (fun _ => 0))), (q3, .inl (cI, 8, .inl (fun _ => 0))), (q4, .inl (cI, 8, .inl (fun _ => 0))), (q5, .inl (cI, 8, .inl (fun _ => 0))), (q6, .inl (cI, 4, .inl (fun _ => 0))), (q7, .inl (cI, 4, .inl (fun _ => 0))), (q8, .inl (cI, 4, .inl (fun _ => 0))), (q9, .inl (cI, 4, .inl (fun _ => 0))), (q10, .inl (cI, 8, .inl (fun _ => 0))), (q11, .inl (cI, 8, .inl (fun _ => 0))), (q12, .inl (cI, 8, .inl (fun _ => 0))), (q13, .inl (cI, 60, .inl (fun _ => 0))), (q14, .inl (cI, 60, .inl (fun _ => 0))), (q15, .inl (cI, 60, .inl (fun _ => 0))), (q16, .inl (cI, 60, .inl (fun _ => 0))), (q17, .inl (cI, 58, .inl (fun _ => 0))), (q18, .inl (cI, 2048, .inl (fun _ => 0)))]) := hD1
  replace hS := hS1
  clear hP1 hD1 hS1
  refine lv_aload_n hx hb dX9_init_145 rfl (lv_at hl 0 rfl) ?_
  refine lv_iconst (v := 5) hx hb dX9_init_146 (by decide) ?_
  refine q_newi (N := 5) hx hb hw3 hE hP hD hS hA (by decide) (by decide +kernel) (by decide +kernel) (Nat.le_of_ble_eq_true rfl) (Nat.le_of_ble_eq_true rfl) dX9_init_147 (fun q19 H hP1 hD1 hS1 => ?_)
  replace hP : va_P D vwCl ([(h0, .inr (9, [.ref q1, .ref q2, .ref q3, .ref q4, .ref q5, .ref q6, .ref q7, .ref q8, .ref q9, .int 0, .int 0, .ref q10, .ref q11, .ref q12, .int 0, .ref q13, .int 0, .ref q14, .ref q15, .ref q16, .int 0, .int 0, .int 0, .ref q17, .int 0, .int 0, .int 0, .int 0, .int 0, .int 0, .ref q18, .null, .null, .null, .null, .int 0, .int 0])), (q1, .inl (cI, 8, .inl (fun _ => 0))), (q2, .inl (cI, 8, .inl (fun _ => 0))), (q3, .inl (cI, 8, .inl (fun _ => 0))), (q4, .inl (cI, 8, .inl (fun _ => 0))), (q5, .inl (cI, 8, .inl (fun _ => 0))), (q6, .inl (cI, 4, .inl (fun _ => 0))), (q7, .inl (cI, 4, .inl (fun _ => 0))), (q8, .inl (cI, 4, .inl (fun _ => 0))), (q9, .inl (cI, 4, .inl (fun _ => 0))), (q10, .inl (cI, 8, .inl (fun _ => 0))), (q11, .inl (cI, 8, .inl (fun _ => 0))), (q12, .inl (cI, 8, .inl (fun _ => 0))), (q13, .inl (cI, 60, .inl (fun _ => 0))), (q14, .inl (cI, 60, .inl (fun _ => 0))), (q15, .inl (cI, 60, .inl (fun _ => 0))), (q16, .inl (cI, 60, .inl (fun _ => 0))), (q17, .inl (cI, 58, .inl (fun _ => 0))), (q18, .inl (cI, 2048, .inl (fun _ => 0))), (q19, .inl (cI, 5, .inl (fun _ => 0)))]) H := hP1
  replace hD : va_D A ([(h0, .inr (9, [.ref q1, .ref q2, .ref q3, .ref q4, .ref q5, .ref q6, .ref q7, .ref q8, .ref q9, .int 0, .int 0, .ref q10, .ref q11, .ref q12, .int 0, .ref q13, .int 0, .ref q14, .ref q15, .ref q16, .int 0, .int 0, .int 0, .ref q17, .int 0, .int 0, .int 0, .int 0, .int 0, .int 0, .ref q18, .null, .null, .null, .null, .int 0, .int 0])), (q1, .inl (cI, 8, .inl (fun _ => 0))), (q2, .inl (cI, 8, .inl (fun _ => 0))), (q3, .inl (cI, 8, .inl (fun _ => 0))), (q4, .inl (cI, 8, .inl (fun _ => 0))), (q5, .inl (cI, 8, .inl (fun _ => 0))), (q6, .inl (cI, 4, .inl (fun _ => 0))), (q7, .inl (cI, 4, .inl (fun _ => 0))), (q8, .inl (cI, 4, .inl (fun _ => 0))), (q9, .inl (cI, 4, .inl (fun _ => 0))), (q10, .inl (cI, 8, .inl (fun _ => 0))), (q11, .inl (cI, 8, .inl (fun _ => 0))), (q12, .inl (cI, 8, .inl (fun _ => 0))), (q13, .inl (cI, 60, .inl (fun _ => 0))), (q14, .inl (cI, 60, .inl (fun _ => 0))), (q15, .inl (cI, 60, .inl (fun _ => 0))), (q16, .inl (cI, 60, .inl (fun _ => 0))), (q17, .inl (cI, 58, .inl (fun _ => 0))), (q18, .inl (cI, 2048, .inl (fun _ => 0))), (q19, .inl (cI, 5, .inl (fun _ => 0)))]) := hD1
  replace hS := hS1
  clear hP1 hD1 hS1
  refine W.widen (k := 19) (n := 2431) (Nat.le_of_ble_eq_true rfl) (Nat.le_of_ble_eq_true rfl) ?_
  refine va_putF (D := D) (ci := 9) (v := .ref q19) (ty := .array .int) (C := RX9) (T := TX9) (N := 37) hx hb hts hi9 tyX9 tyX9_ok nmX9 hown hE.1 hP hD hS 0 rfl rfl 31 (by decide) hw22 (fun _ h9 => h9) rfl hin rfl (by decide +kernel) rfl rfl (Nat.le_of_ble_eq_true rfl) dX9_init_149 (fun H locs hP1 hD1 hS1 => ?_)
  replace hP : va_P D vwCl ([(h0, .inr (9, [.ref q1, .ref q2, .ref q3, .ref q4, .ref q5, .ref q6, .ref q7, .ref q8, .ref q9, .int 0, .int 0, .ref q10, .ref q11, .ref q12, .int 0, .ref q13, .int 0, .ref q14, .ref q15, .ref q16, .int 0, .int 0, .int 0, .ref q17, .int 0, .int 0, .int 0, .int 0, .int 0, .int 0, .ref q18, .ref q19, .null, .null, .null, .int 0, .int 0])), (q1, .inl (cI, 8, .inl (fun _ => 0))), (q2, .inl (cI, 8, .inl (fun _ => 0))), (q3, .inl (cI, 8, .inl (fun _ => 0))), (q4, .inl (cI, 8, .inl (fun _ => 0))), (q5, .inl (cI, 8, .inl (fun _ => 0))), (q6, .inl (cI, 4, .inl (fun _ => 0))), (q7, .inl (cI, 4, .inl (fun _ => 0))), (q8, .inl (cI, 4, .inl (fun _ => 0))), (q9, .inl (cI, 4, .inl (fun _ => 0))), (q10, .inl (cI, 8, .inl (fun _ => 0))), (q11, .inl (cI, 8, .inl (fun _ => 0))), (q12, .inl (cI, 8, .inl (fun _ => 0))), (q13, .inl (cI, 60, .inl (fun _ => 0))), (q14, .inl (cI, 60, .inl (fun _ => 0))), (q15, .inl (cI, 60, .inl (fun _ => 0))), (q16, .inl (cI, 60, .inl (fun _ => 0))), (q17, .inl (cI, 58, .inl (fun _ => 0))), (q18, .inl (cI, 2048, .inl (fun _ => 0))), (q19, .inl (cI, 5, .inl (fun _ => 0)))]) H := hP1
  replace hD : va_D A ([(h0, .inr (9, [.ref q1, .ref q2, .ref q3, .ref q4, .ref q5, .ref q6, .ref q7, .ref q8, .ref q9, .int 0, .int 0, .ref q10, .ref q11, .ref q12, .int 0, .ref q13, .int 0, .ref q14, .ref q15, .ref q16, .int 0, .int 0, .int 0, .ref q17, .int 0, .int 0, .int 0, .int 0, .int 0, .int 0, .ref q18, .ref q19, .null, .null, .null, .int 0, .int 0])), (q1, .inl (cI, 8, .inl (fun _ => 0))), (q2, .inl (cI, 8, .inl (fun _ => 0))), (q3, .inl (cI, 8, .inl (fun _ => 0))), (q4, .inl (cI, 8, .inl (fun _ => 0))), (q5, .inl (cI, 8, .inl (fun _ => 0))), (q6, .inl (cI, 4, .inl (fun _ => 0))), (q7, .inl (cI, 4, .inl (fun _ => 0))), (q8, .inl (cI, 4, .inl (fun _ => 0))), (q9, .inl (cI, 4, .inl (fun _ => 0))), (q10, .inl (cI, 8, .inl (fun _ => 0))), (q11, .inl (cI, 8, .inl (fun _ => 0))), (q12, .inl (cI, 8, .inl (fun _ => 0))), (q13, .inl (cI, 60, .inl (fun _ => 0))), (q14, .inl (cI, 60, .inl (fun _ => 0))), (q15, .inl (cI, 60, .inl (fun _ => 0))), (q16, .inl (cI, 60, .inl (fun _ => 0))), (q17, .inl (cI, 58, .inl (fun _ => 0))), (q18, .inl (cI, 2048, .inl (fun _ => 0))), (q19, .inl (cI, 5, .inl (fun _ => 0)))]) := hD1
  replace hS := hS1
  clear hP1 hD1 hS1
  refine lv_aload_n hx hb dX9_init_152 rfl (lv_at hl 0 rfl) ?_
  refine lv_sipush (v := 1000) hx hb dX9_init_153 (by decide +kernel) ?_
  refine q_newz (N := 1000) hx hb hw23 hE hP hD hS hA (by decide) (by decide +kernel) (by decide +kernel) (Nat.le_of_ble_eq_true rfl) (Nat.le_of_ble_eq_true rfl) dX9_init_156 (fun q20 H hP1 hD1 hS1 => ?_)
  replace hP : va_P D vwCl ([(h0, .inr (9, [.ref q1, .ref q2, .ref q3, .ref q4, .ref q5, .ref q6, .ref q7, .ref q8, .ref q9, .int 0, .int 0, .ref q10, .ref q11, .ref q12, .int 0, .ref q13, .int 0, .ref q14, .ref q15, .ref q16, .int 0, .int 0, .int 0, .ref q17, .int 0, .int 0, .int 0, .int 0, .int 0, .int 0, .ref q18, .ref q19, .null, .null, .null, .int 0, .int 0])), (q1, .inl (cI, 8, .inl (fun _ => 0))), (q2, .inl (cI, 8, .inl (fun _ => 0))), (q3, .inl (cI, 8, .inl (fun _ => 0))), (q4, .inl (cI, 8, .inl (fun _ => 0))), (q5, .inl (cI, 8, .inl (fun _ => 0))), (q6, .inl (cI, 4, .inl (fun _ => 0))), (q7, .inl (cI, 4, .inl (fun _ => 0))), (q8, .inl (cI, 4, .inl (fun _ => 0))), (q9, .inl (cI, 4, .inl (fun _ => 0))), (q10, .inl (cI, 8, .inl (fun _ => 0))), (q11, .inl (cI, 8, .inl (fun _ => 0))), (q12, .inl (cI, 8, .inl (fun _ => 0))), (q13, .inl (cI, 60, .inl (fun _ => 0))), (q14, .inl (cI, 60, .inl (fun _ => 0))), (q15, .inl (cI, 60, .inl (fun _ => 0))), (q16, .inl (cI, 60, .inl (fun _ => 0))), (q17, .inl (cI, 58, .inl (fun _ => 0))), (q18, .inl (cI, 2048, .inl (fun _ => 0))), (q19, .inl (cI, 5, .inl (fun _ => 0))), (q20, .inl (cZ, 1000, .inl (fun _ => 0)))]) H := hP1
  replace hD : va_D A ([(h0, .inr (9, [.ref q1, .ref q2, .ref q3, .ref q4, .ref q5, .ref q6, .ref q7, .ref q8, .ref q9, .int 0, .int 0, .ref q10, .ref q11, .ref q12, .int 0, .ref q13, .int 0, .ref q14, .ref q15, .ref q16, .int 0, .int 0, .int 0, .ref q17, .int 0, .int 0, .int 0, .int 0, .int 0, .int 0, .ref q18, .ref q19, .null, .null, .null, .int 0, .int 0])), (q1, .inl (cI, 8, .inl (fun _ => 0))), (q2, .inl (cI, 8, .inl (fun _ => 0))), (q3, .inl (cI, 8, .inl (fun _ => 0))), (q4, .inl (cI, 8, .inl (fun _ => 0))), (q5, .inl (cI, 8, .inl (fun _ => 0))), (q6, .inl (cI, 4, .inl (fun _ => 0))), (q7, .inl (cI, 4, .inl (fun _ => 0))), (q8, .inl (cI, 4, .inl (fun _ => 0))), (q9, .inl (cI, 4, .inl (fun _ => 0))), (q10, .inl (cI, 8, .inl (fun _ => 0))), (q11, .inl (cI, 8, .inl (fun _ => 0))), (q12, .inl (cI, 8, .inl (fun _ => 0))), (q13, .inl (cI, 60, .inl (fun _ => 0))), (q14, .inl (cI, 60, .inl (fun _ => 0))), (q15, .inl (cI, 60, .inl (fun _ => 0))), (q16, .inl (cI, 60, .inl (fun _ => 0))), (q17, .inl (cI, 58, .inl (fun _ => 0))), (q18, .inl (cI, 2048, .inl (fun _ => 0))), (q19, .inl (cI, 5, .inl (fun _ => 0))), (q20, .inl (cZ, 1000, .inl (fun _ => 0)))]) := hD1
  replace hS := hS1
  clear hP1 hD1 hS1
  refine W.widen (k := 20) (n := 3431) (Nat.le_of_ble_eq_true rfl) (Nat.le_of_ble_eq_true rfl) ?_
  refine va_putF (D := D) (ci := 9) (v := .ref q20) (ty := .array .boolean) (C := RX9) (T := TX9) (N := 37) hx hb hts hi9 tyX9 tyX9_ok nmX9 hown hE.1 hP hD hS 0 rfl rfl 32 (by decide) hw24 (fun _ h9 => h9) rfl hin rfl (by decide +kernel) rfl rfl (Nat.le_of_ble_eq_true rfl) dX9_init_158 (fun H locs hP1 hD1 hS1 => ?_)
  replace hP : va_P D vwCl ([(h0, .inr (9, [.ref q1, .ref q2, .ref q3, .ref q4, .ref q5, .ref q6, .ref q7, .ref q8, .ref q9, .int 0, .int 0, .ref q10, .ref q11, .ref q12, .int 0, .ref q13, .int 0, .ref q14, .ref q15, .ref q16, .int 0, .int 0, .int 0, .ref q17, .int 0, .int 0, .int 0, .int 0, .int 0, .int 0, .ref q18, .ref q19, .ref q20, .null, .null, .int 0, .int 0])), (q1, .inl (cI, 8, .inl (fun _ => 0))), (q2, .inl (cI, 8, .inl (fun _ => 0))), (q3, .inl (cI, 8, .inl (fun _ => 0))), (q4, .inl (cI, 8, .inl (fun _ => 0))), (q5, .inl (cI, 8, .inl (fun _ => 0))), (q6, .inl (cI, 4, .inl (fun _ => 0))), (q7, .inl (cI, 4, .inl (fun _ => 0))), (q8, .inl (cI, 4, .inl (fun _ => 0))), (q9, .inl (cI, 4, .inl (fun _ => 0))), (q10, .inl (cI, 8, .inl (fun _ => 0))), (q11, .inl (cI, 8, .inl (fun _ => 0))), (q12, .inl (cI, 8, .inl (fun _ => 0))), (q13, .inl (cI, 60, .inl (fun _ => 0))), (q14, .inl (cI, 60, .inl (fun _ => 0))), (q15, .inl (cI, 60, .inl (fun _ => 0))), (q16, .inl (cI, 60, .inl (fun _ => 0))), (q17, .inl (cI, 58, .inl (fun _ => 0))), (q18, .inl (cI, 2048, .inl (fun _ => 0))), (q19, .inl (cI, 5, .inl (fun _ => 0))), (q20, .inl (cZ, 1000, .inl (fun _ => 0)))]) H := hP1
  replace hD : va_D A ([(h0, .inr (9, [.ref q1, .ref q2, .ref q3, .ref q4, .ref q5, .ref q6, .ref q7, .ref q8, .ref q9, .int 0, .int 0, .ref q10, .ref q11, .ref q12, .int 0, .ref q13, .int 0, .ref q14, .ref q15, .ref q16, .int 0, .int 0, .int 0, .ref q17, .int 0, .int 0, .int 0, .int 0, .int 0, .int 0, .ref q18, .ref q19, .ref q20, .null, .null, .int 0, .int 0])), (q1, .inl (cI, 8, .inl (fun _ => 0))), (q2, .inl (cI, 8, .inl (fun _ => 0))), (q3, .inl (cI, 8, .inl (fun _ => 0))), (q4, .inl (cI, 8, .inl (fun _ => 0))), (q5, .inl (cI, 8, .inl (fun _ => 0))), (q6, .inl (cI, 4, .inl (fun _ => 0))), (q7, .inl (cI, 4, .inl (fun _ => 0))), (q8, .inl (cI, 4, .inl (fun _ => 0))), (q9, .inl (cI, 4, .inl (fun _ => 0))), (q10, .inl (cI, 8, .inl (fun _ => 0))), (q11, .inl (cI, 8, .inl (fun _ => 0))), (q12, .inl (cI, 8, .inl (fun _ => 0))), (q13, .inl (cI, 60, .inl (fun _ => 0))), (q14, .inl (cI, 60, .inl (fun _ => 0))), (q15, .inl (cI, 60, .inl (fun _ => 0))), (q16, .inl (cI, 60, .inl (fun _ => 0))), (q17, .inl (cI, 58, .inl (fun _ => 0))), (q18, .inl (cI, 2048, .inl (fun _ => 0))), (q19, .inl (cI, 5, .inl (fun _ => 0))), (q20, .inl (cZ, 1000, .inl (fun _ => 0)))]) := hD1
  replace hS := hS1
  clear hP1 hD1 hS1
  refine lv_aload_n hx hb dX9_init_161 rfl (lv_at hl 0 rfl) ?_
  refine lv_sipush (v := 180) hx hb dX9_init_162 (by decide +kernel) ?_
  refine q_newi (N := 180) hx hb hw3 hE hP hD hS hA (by decide) (by decide +kernel) (by decide +kernel) (Nat.le_of_ble_eq_true rfl) (Nat.le_of_ble_eq_true rfl) dX9_init_165 (fun q21 H hP1 hD1 hS1 => ?_)
  replace hP : va_P D vwCl ([(h0, .inr (9, [.ref q1, .ref q2, .ref q3, .ref q4, .ref q5, .ref q6, .ref q7, .ref q8, .ref q9, .int 0, .int 0, .ref q10, .ref q11, .ref q12, .int 0, .ref q13, .int 0, .ref q14, .ref q15, .ref q16, .int 0, .int 0, .int 0, .ref q17, .int 0, .int 0, .int 0, .int 0, .int 0, .int 0, .ref q18, .ref q19, .ref q20, .null, .null, .int 0, .int 0])), (q1, .inl (cI, 8, .inl (fun _ => 0))), (q2, .inl (cI, 8, .inl (fun _ => 0))), (q3, .inl (cI, 8, .inl (fun _ => 0))), (q4, .inl (cI, 8, .inl (fun _ => 0))), (q5, .inl (cI, 8, .inl (fun _ => 0))), (q6, .inl (cI, 4, .inl (fun _ => 0))), (q7, .inl (cI, 4, .inl (fun _ => 0))), (q8, .inl (cI, 4, .inl (fun _ => 0))), (q9, .inl (cI, 4, .inl (fun _ => 0))), (q10, .inl (cI, 8, .inl (fun _ => 0))), (q11, .inl (cI, 8, .inl (fun _ => 0))), (q12, .inl (cI, 8, .inl (fun _ => 0))), (q13, .inl (cI, 60, .inl (fun _ => 0))), (q14, .inl (cI, 60, .inl (fun _ => 0))), (q15, .inl (cI, 60, .inl (fun _ => 0))), (q16, .inl (cI, 60, .inl (fun _ => 0))), (q17, .inl (cI, 58, .inl (fun _ => 0))), (q18, .inl (cI, 2048, .inl (fun _ => 0))), (q19, .inl (cI, 5, .inl (fun _ => 0))), (q20, .inl (cZ, 1000, .inl (fun _ => 0))), (q21, .inl (cI, 180, .inl (fun _ => 0)))]) H := hP1
  replace hD : va_D A ([(h0, .inr (9, [.ref q1, .ref q2, .ref q3, .ref q4, .ref q5, .ref q6, .ref q7, .ref q8, .ref q9, .int 0, .int 0, .ref q10, .ref q11, .ref q12, .int 0, .ref q13, .int 0, .ref q14, .ref q15, .ref q16, .int 0, .int 0, .int 0, .ref q17, .int 0, .int 0, .int 0, .int 0, .int 0, .int 0, .ref q18, .ref q19, .ref q20, .null, .null, .int 0, .int 0])), (q1, .inl (cI, 8, .inl (fun _ => 0))), (q2, .inl (cI, 8, .inl (fun _ => 0))), (q3, .inl (cI, 8, .inl (fun _ => 0))), (q4, .inl (cI, 8, .inl (fun _ => 0))), (q5, .inl (cI, 8, .inl (fun _ => 0))), (q6, .inl (cI, 4, .inl (fun _ => 0))), (q7, .inl (cI, 4, .inl (fun _ => 0))), (q8, .inl (cI, 4, .inl (fun _ => 0))), (q9, .inl (cI, 4, .inl (fun _ => 0))), (q10, .inl (cI, 8, .inl (fun _ => 0))), (q11, .inl (cI, 8, .inl (fun _ => 0))), (q12, .inl (cI, 8, .inl (fun _ => 0))), (q13, .inl (cI, 60, .inl (fun _ => 0))), (q14, .inl (cI, 60, .inl (fun _ => 0))), (q15, .inl (cI, 60, .inl (fun _ => 0))), (q16, .inl (cI, 60, .inl (fun _ => 0))), (q17, .inl (cI, 58, .inl (fun _ => 0))), (q18, .inl (cI, 2048, .inl (fun _ => 0))), (q19, .inl (cI, 5, .inl (fun _ => 0))), (q20, .inl (cZ, 1000, .inl (fun _ => 0))), (q21, .inl (cI, 180, .inl (fun _ => 0)))]) := hD1
  replace hS := hS1
  clear hP1 hD1 hS1
  refine W.widen (k := 21) (n := 3611) (Nat.le_of_ble_eq_true rfl) (Nat.le_of_ble_eq_true rfl) ?_
  refine va_putF (D := D) (ci := 9) (v := .ref q21) (ty := .array .int) (C := RX9) (T := TX9) (N := 37) hx hb hts hi9 tyX9 tyX9_ok nmX9 hown hE.1 hP hD hS 0 rfl rfl 33 (by decide) hw25 (fun _ h9 => h9) rfl hin rfl (by decide +kernel) rfl rfl (Nat.le_of_ble_eq_true rfl) dX9_init_167 (fun H locs hP1 hD1 hS1 => ?_)
  replace hP : va_P D vwCl ([(h0, .inr (9, [.ref q1, .ref q2, .ref q3, .ref q4, .ref q5, .ref q6, .ref q7, .ref q8, .ref q9, .int 0, .int 0, .ref q10, .ref q11, .ref q12, .int 0, .ref q13, .int 0, .ref q14, .ref q15, .ref q16, .int 0, .int 0, .int 0, .ref q17, .int 0, .int 0, .int 0, .int 0, .int 0, .int 0, .ref q18, .ref q19, .ref q20, .ref q21, .null, .int 0, .int 0])), (q1, .inl (cI, 8, .inl (fun _ => 0))), (q2, .inl (cI, 8, .inl (fun _ => 0))), (q3, .inl (cI, 8, .inl (fun _ => 0))), (q4, .inl (cI, 8, .inl (fun _ => 0))), (q5, .inl (cI, 8, .inl (fun _ => 0))), (q6, .inl (cI, 4, .inl (fun _ => 0))), (q7, .inl (cI, 4, .inl (fun _ => 0))), (q8, .inl (cI, 4, .inl (fun _ => 0))), (q9, .inl (cI, 4, .inl (fun _ => 0))), (q10, .inl (cI, 8, .inl (fun _ => 0))), (q11, .inl (cI, 8, .inl (fun _ => 0))), (q12, .inl (cI, 8, .inl (fun _ => 0))), (q13, .inl (cI, 60, .inl (fun _ => 0))), (q14, .inl (cI, 60, .inl (fun _ => 0))), (q15, .inl (cI, 60, .inl (fun _ => 0))), (q16, .inl (cI, 60, .inl (fun _ => 0))), (q17, .inl (cI, 58, .inl (fun _ => 0))), (q18, .inl (cI, 2048, .inl (fun _ => 0))), (q19, .inl (cI, 5, .inl (fun _ => 0))), (q20, .inl (cZ, 1000, .inl (fun _ => 0))), (q21, .inl (cI, 180, .inl (fun _ => 0)))]) H := hP1
  replace hD : va_D A ([(h0, .inr (9, [.ref q1, .ref q2, .ref q3, .ref q4, .ref q5, .ref q6, .ref q7, .ref q8, .ref q9, .int 0, .int 0, .ref q10, .ref q11, .ref q12, .int 0, .ref q13, .int 0, .ref q14, .ref q15, .ref q16, .int 0, .int 0, .int 0, .ref q17, .int 0, .int 0, .int 0, .int 0, .int 0, .int 0, .ref q18, .ref q19, .ref q20, .ref q21, .null, .int 0, .int 0])), (q1, .inl (cI, 8, .inl (fun _ => 0))), (q2, .inl (cI, 8, .inl (fun _ => 0))), (q3, .inl (cI, 8, .inl (fun _ => 0))), (q4, .inl (cI, 8, .inl (fun _ => 0))), (q5, .inl (cI, 8, .inl (fun _ => 0))), (q6, .inl (cI, 4, .inl (fun _ => 0))), (q7, .inl (cI, 4, .inl (fun _ => 0))), (q8, .inl (cI, 4, .inl (fun _ => 0))), (q9, .inl (cI, 4, .inl (fun _ => 0))), (q10, .inl (cI, 8, .inl (fun _ => 0))), (q11, .inl (cI, 8, .inl (fun _ => 0))), (q12, .inl (cI, 8, .inl (fun _ => 0))), (q13, .inl (cI, 60, .inl (fun _ => 0))), (q14, .inl (cI, 60, .inl (fun _ => 0))), (q15, .inl (cI, 60, .inl (fun _ => 0))), (q16, .inl (cI, 60, .inl (fun _ => 0))), (q17, .inl (cI, 58, .inl (fun _ => 0))), (q18, .inl (cI, 2048, .inl (fun _ => 0))), (q19, .inl (cI, 5, .inl (fun _ => 0))), (q20, .inl (cZ, 1000, .inl (fun _ => 0))), (q21, .inl (cI, 180, .inl (fun _ => 0)))]) := hD1
  replace hS := hS1
  clear hP1 hD1 hS1
  refine lv_aload_n hx hb dX9_init_170 rfl (lv_at hl 0 rfl) ?_
  refine lv_iconst (v := 2) hx hb dX9_init_171 (by decide) ?_
  refine q_newz (N := 2) hx hb hw23 hE hP hD hS hA (by decide) (by decide +kernel) (by decide +kernel) (Nat.le_of_ble_eq_true rfl) (Nat.le_of_ble_eq_true rfl) dX9_init_172 (fun q22 H hP1 hD1 hS1 => ?_)
  replace hP : va_P D vwCl ([(h0, .inr (9, [.ref q1, .ref q2, .ref q3, .ref q4, .ref q5, .ref q6, .ref q7, .ref q8, .ref q9, .int 0, .int 0, .ref q10, .ref q11, .ref q12, .int 0, .ref q13, .int 0, .ref q14, .ref q15, .ref q16, .int 0, .int 0, .int 0, .ref q17, .int 0, .int 0, .int 0, .int 0, .int 0, .int 0, .ref q18, .ref q19, .ref q20, .ref q21, .null, .int 0, .int 0])), (q1, .inl (cI, 8, .inl (fun _ => 0))), (q2, .inl (cI, 8, .inl (fun _ => 0))), (q3, .inl (cI, 8, .inl (fun _ => 0))), (q4, .inl (cI, 8, .inl (fun _ => 0))), (q5, .inl (cI, 8, .inl (fun _ => 0))), (q6, .inl (cI, 4, .inl (fun _ => 0))), (q7, .inl (cI, 4, .inl (fun _ => 0))), (q8, .inl (cI, 4, .inl (fun _ => 0))), (q9, .inl (cI, 4, .inl (fun _ => 0))), (q10, .inl (cI, 8, .inl (fun _ => 0))), (q11, .inl (cI, 8, .inl (fun _ => 0))), (q12, .inl (cI, 8, .inl (fun _ => 0))), (q13, .inl (cI, 60, .inl (fun _ => 0))), (q14, .inl (cI, 60, .inl (fun _ => 0))), (q15, .inl (cI, 60, .inl (fun _ => 0))), (q16, .inl (cI, 60, .inl (fun _ => 0))), (q17, .inl (cI, 58, .inl (fun _ => 0))), (q18, .inl (cI, 2048, .inl (fun _ => 0))), (q19, .inl (cI, 5, .inl (fun _ => 0))), (q20, .inl (cZ, 1000, .inl (fun _ => 0))), (q21, .inl (cI, 180, .inl (fun _ => 0))), (q22, .inl (cZ, 2, .inl (fun _ => 0)))]) H := hP1
  replace hD : va_D A ([(h0, .inr (9, [.ref q1, .ref q2, .ref q3, .ref q4, .ref q5, .ref q6, .ref q7, .ref q8, .ref q9, .int 0, .int 0, .ref q10, .ref q11, .ref q12, .int 0, .ref q13, .int 0, .ref q14, .ref q15, .ref q16, .int 0, .int 0, .int 0, .ref q17, .int 0, .int 0, .int 0, .int 0, .int 0, .int 0, .ref q18, .ref q19, .ref q20, .ref q21, .null, .int 0, .int 0])), (q1, .inl (cI, 8, .inl (fun _ => 0))), (q2, .inl (cI, 8, .inl (fun _ => 0))), (q3, .inl (cI, 8, .inl (fun _ => 0))), (q4, .inl (cI, 8, .inl (fun _ => 0))), (q5, .inl (cI, 8, .inl (fun _ => 0))), (q6, .inl (cI, 4, .inl (fun _ => 0))), (q7, .inl (cI, 4, .inl (fun _ => 0))), (q8, .inl (cI, 4, .inl (fun _ => 0))), (q9, .inl (cI, 4, .inl (fun _ => 0))), (q10, .inl (cI, 8, .inl (fun _ => 0))), (q11, .inl (cI, 8, .inl (fun _ => 0))), (q12, .inl (cI, 8, .inl (fun _ => 0))), (q13, .inl (cI, 60, .inl (fun _ => 0))), (q14, .inl (cI, 60, .inl (fun _ => 0))), (q15, .inl (cI, 60, .inl (fun _ => 0))), (q16, .inl (cI, 60, .inl (fun _ => 0))), (q17, .inl (cI, 58, .inl (fun _ => 0))), (q18, .inl (cI, 2048, .inl (fun _ => 0))), (q19, .inl (cI, 5, .inl (fun _ => 0))), (q20, .inl (cZ, 1000, .inl (fun _ => 0))), (q21, .inl (cI, 180, .inl (fun _ => 0))), (q22, .inl (cZ, 2, .inl (fun _ => 0)))]) := hD1
  replace hS := hS1
  clear hP1 hD1 hS1
  refine W.widen (k := 22) (n := 3613) (Nat.le_of_ble_eq_true rfl) (Nat.le_of_ble_eq_true rfl) ?_
  refine va_putF (D := D) (ci := 9) (v := .ref q22) (ty := .array .boolean) (C := RX9) (T := TX9) (N := 37) hx hb hts hi9 tyX9 tyX9_ok nmX9 hown hE.1 hP hD hS 0 rfl rfl 34 (by decide) hw26 (fun _ h9 => h9) rfl hin rfl (by decide +kernel) rfl rfl (Nat.le_of_ble_eq_true rfl) dX9_init_174 (fun H locs hP1 hD1 hS1 => ?_)
  replace hP : va_P D vwCl ([(h0, .inr (9, [.ref q1, .ref q2, .ref q3, .ref q4, .ref q5, .ref q6, .ref q7, .ref q8, .ref q9, .int 0, .int 0, .ref q10, .ref q11, .ref q12, .int 0, .ref q13, .int 0, .ref q14, .ref q15, .ref q16, .int 0, .int 0, .int 0, .ref q17, .int 0, .int 0, .int 0, .int 0, .int 0, .int 0, .ref q18, .ref q19, .ref q20, .ref q21, .ref q22, .int 0, .int 0])), (q1, .inl (cI, 8, .inl (fun _ => 0))), (q2, .inl (cI, 8, .inl (fun _ => 0))), (q3, .inl (cI, 8, .inl (fun _ => 0))), (q4, .inl (cI, 8, .inl (fun _ => 0))), (q5, .inl (cI, 8, .inl (fun _ => 0))), (q6, .inl (cI, 4, .inl (fun _ => 0))), (q7, .inl (cI, 4, .inl (fun _ => 0))), (q8, .inl (cI, 4, .inl (fun _ => 0))), (q9, .inl (cI, 4, .inl (fun _ => 0))), (q10, .inl (cI, 8, .inl (fun _ => 0))), (q11, .inl (cI, 8, .inl (fun _ => 0))), (q12, .inl (cI, 8, .inl (fun _ => 0))), (q13, .inl (cI, 60, .inl (fun _ => 0))), (q14, .inl (cI, 60, .inl (fun _ => 0))), (q15, .inl (cI, 60, .inl (fun _ => 0))), (q16, .inl (cI, 60, .inl (fun _ => 0))), (q17, .inl (cI, 58, .inl (fun _ => 0))), (q18, .inl (cI, 2048, .inl (fun _ => 0))), (q19, .inl (cI, 5, .inl (fun _ => 0))), (q20, .inl (cZ, 1000, .inl (fun _ => 0))), (q21, .inl (cI, 180, .inl (fun _ => 0))), (q22, .inl (cZ, 2, .inl (fun _ => 0)))]) H := hP1
  replace hD : va_D A ([(h0, .inr (9, [.ref q1, .ref q2, .ref q3, .ref q4, .ref q5, .ref q6, .ref q7, .ref q8, .ref q9, .int 0, .int 0, .ref q10, .ref q11, .ref q12, .int 0, .ref q13, .int 0, .ref q14, .ref q15, .ref q16, .int 0, .int 0, .int 0, .ref q17, .int 0, .int 0, .int 0, .int 0, .int 0, .int 0, .ref q18, .ref q19, .ref q20, .ref q21, .ref q22, .int 0, .int 0])), (q1, .inl (cI, 8, .inl (fun _ => 0))), (q2, .inl (cI, 8, .inl (fun _ => 0))), (q3, .inl (cI, 8, .inl (fun _ => 0))), (q4, .inl (cI, 8, .inl (fun _ => 0))), (q5, .inl (cI, 8, .inl (fun _ => 0))), (q6, .inl (cI, 4, .inl (fun _ => 0))), (q7, .inl (cI, 4, .inl (fun _ => 0))), (q8, .inl (cI, 4, .inl (fun _ => 0))), (q9, .inl (cI, 4, .inl (fun _ => 0))), (q10, .inl (cI, 8, .inl (fun _ => 0))), (q11, .inl (cI, 8, .inl (fun _ => 0))), (q12, .inl (cI, 8, .inl (fun _ => 0))), (q13, .inl (cI, 60, .inl (fun _ => 0))), (q14, .inl (cI, 60, .inl (fun _ => 0))), (q15, .inl (cI, 60, .inl (fun _ => 0))), (q16, .inl (cI, 60, .inl (fun _ => 0))), (q17, .inl (cI, 58, .inl (fun _ => 0))), (q18, .inl (cI, 2048, .inl (fun _ => 0))), (q19, .inl (cI, 5, .inl (fun _ => 0))), (q20, .inl (cZ, 1000, .inl (fun _ => 0))), (q21, .inl (cI, 180, .inl (fun _ => 0))), (q22, .inl (cZ, 2, .inl (fun _ => 0)))]) := hD1
  replace hS := hS1
  clear hP1 hD1 hS1
  obtain ⟨T0, eT0⟩ : ∃ z : St, z = (fun _ _ => 0) := ⟨_, rfl⟩
  obtain ⟨d, ed0, ed1, ed2, ed3, ed4, ed5, ed6, ed7, ed8, ed9, ed12, ed13, ed14, ed16, ed18, ed19, ed20, ed24, ed31, ed32, ed33, ed34, ed35⟩ : ∃ d : Nat → Nat, d 0 = h0 ∧ d 1 = q1 ∧ d 2 = q2 ∧ d 3 = q3 ∧ d 4 = q4 ∧ d 5 = q5 ∧ d 6 = q6 ∧ d 7 = q7 ∧ d 8 = q8 ∧ d 9 = q9 ∧ d 12 = q10 ∧ d 13 = q11 ∧ d 14 = q12 ∧ d 16 = q13 ∧ d 18 = q14 ∧ d 19 = q15 ∧ d 20 = q16 ∧ d 24 = q17 ∧ d 31 = q18 ∧ d 32 = q19 ∧ d 33 = q20 ∧ d 34 = q21 ∧ d 35 = q22 := ⟨(fun j : Nat => if j = 0 then h0 else if j = 1 then q1 else if j = 2 then q2 else if j = 3 then q3 else if j = 4 then q4 else if j = 5 then q5 else if j = 6 then q6 else if j = 7 then q7 else if j = 8 then q8 else if j = 9 then q9 else if j = 12 then q10 else if j = 13 then q11 else if j = 14 then q12 else if j = 16 then q13 else if j = 18 then q14 else if j = 19 then q15 else if j = 20 then q16 else if j = 24 then q17 else if j = 31 then q18 else if j = 32 then q19 else if j = 33 then q20 else if j = 34 then q21 else if j = 35 then q22 else h0), rfl, rfl, rfl, rfl, rfl, rfl, rfl, rfl, rfl, rfl, rfl, rfl, rfl, rfl, rfl, rfl, rfl, rfl, rfl, rfl, rfl, rfl, rfl⟩
  replace hP : va_P D vwCl (wg9 cI cZ d T0) H := by
    rw [eT0]
    simp only [wg9, ed0, ed1, ed2, ed3, ed4, ed5, ed6, ed7, ed8, ed9, ed12, ed13, ed14, ed16, ed18, ed19, ed20, ed24, ed31, ed32, ed33, ed34, ed35]
    exact hP
  replace hD : va_D A (wg9 cI cZ d T0) := by
    rw [eT0]
    simp only [wg9, ed0, ed1, ed2, ed3, ed4, ed5, ed6, ed7, ed8, ed9, ed12, ed13, ed14, ed16, ed18, ed19, ed20, ed24, ed31, ed32, ed33, ed34, ed35]
    exact hD
  replace hl : lv_has ls 2 [(0, .ref (d 0))] := by rw [ed0]; exact hl
  refine lv_iconst (v := 0) hx hb dX9_init_177 (by decide) ?_
  refine lv_istore_n (lv' := [(1, .int 0), (0, .ref (d 0))]) hx hb dX9_init_178 rfl hl (by decide) rfl (fun ls hl => ?_)
  refine lv_iload_n hx hb dX9_init_179 rfl (lv_at hl 0 rfl) ?_
  refine lv_bipush (v := 8) hx hb dX9_init_180 (by decide) ?_
  refine lv_icmp_ge (tgt := 199) hx hb dX9_init_182 (by decide) (fun c1 => absurd c1 (by decide)) (fun _ => ?_)
  refine lv_aload_n hx hb dX9_init_185 rfl (lv_at hl 1 rfl) ?_
  refine va_get (D := D) (ci := 9) (v := .ref (d 3)) (C := RX9) (T := TX9) (N := 37) hx hb hts hi9 hown hE.1 hP 0 rfl rfl 2 (by decide) hw6 (fun _ h9 => h9) rfl dX9_init_186 ?_
  refine lv_iload_n hx hb dX9_init_189 rfl (lv_at hl 0 rfl) ?_
  refine lv_bipush (v := (-6)) hx hb dX9_init_190 (by decide) ?_
  refine va_iast hx hb hE.1 hP hD hS 3 0 rfl rfl (q_in (by decide +kernel)) dX9_init_192 (fun H locs hP1 hD1 hS1 => ?_)
  replace hP : va_P D vwCl (wg9 cI cZ d (q_su T0 2 ((0 : Int32).toNatClampNeg) (-6))) H := hP1
  replace hD : va_D A (wg9 cI cZ d (q_su T0 2 ((0 : Int32).toNatClampNeg) (-6))) := hD1
  replace hS := hS1
  clear hP1 hD1 hS1
  obtain ⟨T1, eT1⟩ : ∃ z : St, z = q_su T0 2 ((0 : Int32).toNatClampNeg) (-6) := ⟨_, rfl⟩
  rw [← eT1] at hP hD
  refine lv_iinc (v := 1) (lv' := [(1, .int 1), (0, .ref (d 0))]) hx hb dX9_init_193 hl (k := 0) rfl (by decide) (by decide) rfl (fun ls hl => ?_)
  refine lv_goto (tgt := 179) hx hb dX9_init_196 (by decide) ?_
  refine lv_iload_n hx hb dX9_init_179 rfl (lv_at hl 0 rfl) ?_
  refine lv_bipush (v := 8) hx hb dX9_init_180 (by decide) ?_
  refine lv_icmp_ge (tgt := 199) hx hb dX9_init_182 (by decide) (fun c1 => absurd c1 (by decide)) (fun _ => ?_)
  refine lv_aload_n hx hb dX9_init_185 rfl (lv_at hl 1 rfl) ?_
  refine va_get (D := D) (ci := 9) (v := .ref (d 3)) (C := RX9) (T := TX9) (N := 37) hx hb hts hi9 hown hE.1 hP 0 rfl rfl 2 (by decide) hw6 (fun _ h9 => h9) rfl dX9_init_186 ?_
  refine lv_iload_n hx hb dX9_init_189 rfl (lv_at hl 0 rfl) ?_
  refine lv_bipush (v := (-6)) hx hb dX9_init_190 (by decide) ?_
  refine va_iast hx hb hE.1 hP hD hS 3 0 rfl rfl (q_in (by decide +kernel)) dX9_init_192 (fun H locs hP1 hD1 hS1 => ?_)
  replace hP : va_P D vwCl (wg9 cI cZ d (q_su T1 2 ((1 : Int32).toNatClampNeg) (-6))) H := hP1
  replace hD : va_D A (wg9 cI cZ d (q_su T1 2 ((1 : Int32).toNatClampNeg) (-6))) := hD1
  replace hS := hS1
  clear hP1 hD1 hS1
  obtain ⟨T2, eT2⟩ : ∃ z : St, z = q_su T1 2 ((1 : Int32).toNatClampNeg) (-6) := ⟨_, rfl⟩
  rw [← eT2] at hP hD
  refine lv_iinc (v := 2) (lv' := [(1, .int 2), (0, .ref (d 0))]) hx hb dX9_init_193 hl (k := 0) rfl (by decide) (by decide) rfl (fun ls hl => ?_)
  refine lv_goto (tgt := 179) hx hb dX9_init_196 (by decide) ?_
  refine lv_iload_n hx hb dX9_init_179 rfl (lv_at hl 0 rfl) ?_
  refine lv_bipush (v := 8) hx hb dX9_init_180 (by decide) ?_
  refine lv_icmp_ge (tgt := 199) hx hb dX9_init_182 (by decide) (fun c1 => absurd c1 (by decide)) (fun _ => ?_)
  refine lv_aload_n hx hb dX9_init_185 rfl (lv_at hl 1 rfl) ?_
  refine va_get (D := D) (ci := 9) (v := .ref (d 3)) (C := RX9) (T := TX9) (N := 37) hx hb hts hi9 hown hE.1 hP 0 rfl rfl 2 (by decide) hw6 (fun _ h9 => h9) rfl dX9_init_186 ?_
  refine lv_iload_n hx hb dX9_init_189 rfl (lv_at hl 0 rfl) ?_
  refine lv_bipush (v := (-6)) hx hb dX9_init_190 (by decide) ?_
  refine va_iast hx hb hE.1 hP hD hS 3 0 rfl rfl (q_in (by decide +kernel)) dX9_init_192 (fun H locs hP1 hD1 hS1 => ?_)
  replace hP : va_P D vwCl (wg9 cI cZ d (q_su T2 2 ((2 : Int32).toNatClampNeg) (-6))) H := hP1
  replace hD : va_D A (wg9 cI cZ d (q_su T2 2 ((2 : Int32).toNatClampNeg) (-6))) := hD1
  replace hS := hS1
  clear hP1 hD1 hS1
  obtain ⟨T3, eT3⟩ : ∃ z : St, z = q_su T2 2 ((2 : Int32).toNatClampNeg) (-6) := ⟨_, rfl⟩
  rw [← eT3] at hP hD
  refine lv_iinc (v := 3) (lv' := [(1, .int 3), (0, .ref (d 0))]) hx hb dX9_init_193 hl (k := 0) rfl (by decide) (by decide) rfl (fun ls hl => ?_)
  refine lv_goto (tgt := 179) hx hb dX9_init_196 (by decide) ?_
  refine lv_iload_n hx hb dX9_init_179 rfl (lv_at hl 0 rfl) ?_
  refine lv_bipush (v := 8) hx hb dX9_init_180 (by decide) ?_
  refine lv_icmp_ge (tgt := 199) hx hb dX9_init_182 (by decide) (fun c1 => absurd c1 (by decide)) (fun _ => ?_)
  refine lv_aload_n hx hb dX9_init_185 rfl (lv_at hl 1 rfl) ?_
  refine va_get (D := D) (ci := 9) (v := .ref (d 3)) (C := RX9) (T := TX9) (N := 37) hx hb hts hi9 hown hE.1 hP 0 rfl rfl 2 (by decide) hw6 (fun _ h9 => h9) rfl dX9_init_186 ?_
  refine lv_iload_n hx hb dX9_init_189 rfl (lv_at hl 0 rfl) ?_
  refine lv_bipush (v := (-6)) hx hb dX9_init_190 (by decide) ?_
  refine va_iast hx hb hE.1 hP hD hS 3 0 rfl rfl (q_in (by decide +kernel)) dX9_init_192 (fun H locs hP1 hD1 hS1 => ?_)
  replace hP : va_P D vwCl (wg9 cI cZ d (q_su T3 2 ((3 : Int32).toNatClampNeg) (-6))) H := hP1
  replace hD : va_D A (wg9 cI cZ d (q_su T3 2 ((3 : Int32).toNatClampNeg) (-6))) := hD1
  replace hS := hS1
  clear hP1 hD1 hS1
  obtain ⟨T4, eT4⟩ : ∃ z : St, z = q_su T3 2 ((3 : Int32).toNatClampNeg) (-6) := ⟨_, rfl⟩
  rw [← eT4] at hP hD
  refine lv_iinc (v := 4) (lv' := [(1, .int 4), (0, .ref (d 0))]) hx hb dX9_init_193 hl (k := 0) rfl (by decide) (by decide) rfl (fun ls hl => ?_)
  refine lv_goto (tgt := 179) hx hb dX9_init_196 (by decide) ?_
  refine lv_iload_n hx hb dX9_init_179 rfl (lv_at hl 0 rfl) ?_
  refine lv_bipush (v := 8) hx hb dX9_init_180 (by decide) ?_
  refine lv_icmp_ge (tgt := 199) hx hb dX9_init_182 (by decide) (fun c1 => absurd c1 (by decide)) (fun _ => ?_)
  refine lv_aload_n hx hb dX9_init_185 rfl (lv_at hl 1 rfl) ?_
  refine va_get (D := D) (ci := 9) (v := .ref (d 3)) (C := RX9) (T := TX9) (N := 37) hx hb hts hi9 hown hE.1 hP 0 rfl rfl 2 (by decide) hw6 (fun _ h9 => h9) rfl dX9_init_186 ?_
  refine lv_iload_n hx hb dX9_init_189 rfl (lv_at hl 0 rfl) ?_
  refine lv_bipush (v := (-6)) hx hb dX9_init_190 (by decide) ?_
  refine va_iast hx hb hE.1 hP hD hS 3 0 rfl rfl (q_in (by decide +kernel)) dX9_init_192 (fun H locs hP1 hD1 hS1 => ?_)
  replace hP : va_P D vwCl (wg9 cI cZ d (q_su T4 2 ((4 : Int32).toNatClampNeg) (-6))) H := hP1
  replace hD : va_D A (wg9 cI cZ d (q_su T4 2 ((4 : Int32).toNatClampNeg) (-6))) := hD1
  replace hS := hS1
  clear hP1 hD1 hS1
  obtain ⟨T5, eT5⟩ : ∃ z : St, z = q_su T4 2 ((4 : Int32).toNatClampNeg) (-6) := ⟨_, rfl⟩
  rw [← eT5] at hP hD
  refine lv_iinc (v := 5) (lv' := [(1, .int 5), (0, .ref (d 0))]) hx hb dX9_init_193 hl (k := 0) rfl (by decide) (by decide) rfl (fun ls hl => ?_)
  refine lv_goto (tgt := 179) hx hb dX9_init_196 (by decide) ?_
  refine lv_iload_n hx hb dX9_init_179 rfl (lv_at hl 0 rfl) ?_
  refine lv_bipush (v := 8) hx hb dX9_init_180 (by decide) ?_
  refine lv_icmp_ge (tgt := 199) hx hb dX9_init_182 (by decide) (fun c1 => absurd c1 (by decide)) (fun _ => ?_)
  refine lv_aload_n hx hb dX9_init_185 rfl (lv_at hl 1 rfl) ?_
  refine va_get (D := D) (ci := 9) (v := .ref (d 3)) (C := RX9) (T := TX9) (N := 37) hx hb hts hi9 hown hE.1 hP 0 rfl rfl 2 (by decide) hw6 (fun _ h9 => h9) rfl dX9_init_186 ?_
  refine lv_iload_n hx hb dX9_init_189 rfl (lv_at hl 0 rfl) ?_
  refine lv_bipush (v := (-6)) hx hb dX9_init_190 (by decide) ?_
  refine va_iast hx hb hE.1 hP hD hS 3 0 rfl rfl (q_in (by decide +kernel)) dX9_init_192 (fun H locs hP1 hD1 hS1 => ?_)
  replace hP : va_P D vwCl (wg9 cI cZ d (q_su T5 2 ((5 : Int32).toNatClampNeg) (-6))) H := hP1
  replace hD : va_D A (wg9 cI cZ d (q_su T5 2 ((5 : Int32).toNatClampNeg) (-6))) := hD1
  replace hS := hS1
  clear hP1 hD1 hS1
  obtain ⟨T6, eT6⟩ : ∃ z : St, z = q_su T5 2 ((5 : Int32).toNatClampNeg) (-6) := ⟨_, rfl⟩
  rw [← eT6] at hP hD
  refine lv_iinc (v := 6) (lv' := [(1, .int 6), (0, .ref (d 0))]) hx hb dX9_init_193 hl (k := 0) rfl (by decide) (by decide) rfl (fun ls hl => ?_)
  refine lv_goto (tgt := 179) hx hb dX9_init_196 (by decide) ?_
  refine lv_iload_n hx hb dX9_init_179 rfl (lv_at hl 0 rfl) ?_
  refine lv_bipush (v := 8) hx hb dX9_init_180 (by decide) ?_
  refine lv_icmp_ge (tgt := 199) hx hb dX9_init_182 (by decide) (fun c1 => absurd c1 (by decide)) (fun _ => ?_)
  refine lv_aload_n hx hb dX9_init_185 rfl (lv_at hl 1 rfl) ?_
  refine va_get (D := D) (ci := 9) (v := .ref (d 3)) (C := RX9) (T := TX9) (N := 37) hx hb hts hi9 hown hE.1 hP 0 rfl rfl 2 (by decide) hw6 (fun _ h9 => h9) rfl dX9_init_186 ?_
  refine lv_iload_n hx hb dX9_init_189 rfl (lv_at hl 0 rfl) ?_
  refine lv_bipush (v := (-6)) hx hb dX9_init_190 (by decide) ?_
  refine va_iast hx hb hE.1 hP hD hS 3 0 rfl rfl (q_in (by decide +kernel)) dX9_init_192 (fun H locs hP1 hD1 hS1 => ?_)
  replace hP : va_P D vwCl (wg9 cI cZ d (q_su T6 2 ((6 : Int32).toNatClampNeg) (-6))) H := hP1
  replace hD : va_D A (wg9 cI cZ d (q_su T6 2 ((6 : Int32).toNatClampNeg) (-6))) := hD1
  replace hS := hS1
  clear hP1 hD1 hS1
  obtain ⟨T7, eT7⟩ : ∃ z : St, z = q_su T6 2 ((6 : Int32).toNatClampNeg) (-6) := ⟨_, rfl⟩
  rw [← eT7] at hP hD
  refine lv_iinc (v := 7) (lv' := [(1, .int 7), (0, .ref (d 0))]) hx hb dX9_init_193 hl (k := 0) rfl (by decide) (by decide) rfl (fun ls hl => ?_)
  refine lv_goto (tgt := 179) hx hb dX9_init_196 (by decide) ?_
  refine lv_iload_n hx hb dX9_init_179 rfl (lv_at hl 0 rfl) ?_
  refine lv_bipush (v := 8) hx hb dX9_init_180 (by decide) ?_
  refine lv_icmp_ge (tgt := 199) hx hb dX9_init_182 (by decide) (fun c1 => absurd c1 (by decide)) (fun _ => ?_)
  refine lv_aload_n hx hb dX9_init_185 rfl (lv_at hl 1 rfl) ?_
  refine va_get (D := D) (ci := 9) (v := .ref (d 3)) (C := RX9) (T := TX9) (N := 37) hx hb hts hi9 hown hE.1 hP 0 rfl rfl 2 (by decide) hw6 (fun _ h9 => h9) rfl dX9_init_186 ?_
  refine lv_iload_n hx hb dX9_init_189 rfl (lv_at hl 0 rfl) ?_
  refine lv_bipush (v := (-6)) hx hb dX9_init_190 (by decide) ?_
  refine va_iast hx hb hE.1 hP hD hS 3 0 rfl rfl (q_in (by decide +kernel)) dX9_init_192 (fun H locs hP1 hD1 hS1 => ?_)
  replace hP : va_P D vwCl (wg9 cI cZ d (q_su T7 2 ((7 : Int32).toNatClampNeg) (-6))) H := hP1
  replace hD : va_D A (wg9 cI cZ d (q_su T7 2 ((7 : Int32).toNatClampNeg) (-6))) := hD1
  replace hS := hS1
  clear hP1 hD1 hS1
  obtain ⟨T8, eT8⟩ : ∃ z : St, z = q_su T7 2 ((7 : Int32).toNatClampNeg) (-6) := ⟨_, rfl⟩
  rw [← eT8] at hP hD
  refine lv_iinc (v := 8) (lv' := [(1, .int 8), (0, .ref (d 0))]) hx hb dX9_init_193 hl (k := 0) rfl (by decide) (by decide) rfl (fun ls hl => ?_)
  refine lv_goto (tgt := 179) hx hb dX9_init_196 (by decide) ?_
  refine lv_iload_n hx hb dX9_init_179 rfl (lv_at hl 0 rfl) ?_
  refine lv_bipush (v := 8) hx hb dX9_init_180 (by decide) ?_
  refine lv_icmp_ge (tgt := 199) hx hb dX9_init_182 (by decide) (fun _ => ?_) (fun c1 => absurd (by decide) c1)
  refine lv_iconst (v := 0) hx hb dX9_init_199 (by decide) ?_
  refine lv_istore_n (lv' := [(1, .int 0), (0, .ref (d 0))]) hx hb dX9_init_200 rfl hl (by decide) rfl (fun ls hl => ?_)
  refine lv_iload_n hx hb dX9_init_201 rfl (lv_at hl 0 rfl) ?_
  refine lv_iconst (v := 4) hx hb dX9_init_202 (by decide) ?_
  refine lv_icmp_ge (tgt := 221) hx hb dX9_init_203 (by decide) (fun c1 => absurd c1 (by decide)) (fun _ => ?_)
  refine lv_aload_n hx hb dX9_init_206 rfl (lv_at hl 1 rfl) ?_
  refine va_get (D := D) (ci := 9) (v := .ref (d 6)) (C := RX9) (T := TX9) (N := 37) hx hb hts hi9 hown hE.1 hP 0 rfl rfl 5 (by decide) hw9 (fun _ h9 => h9) rfl dX9_init_207 ?_
  refine lv_iload_n hx hb dX9_init_210 rfl (lv_at hl 0 rfl) ?_
  refine lv_iconst (v := 3) hx hb dX9_init_211 (by decide) ?_
  refine lv_iload_n hx hb dX9_init_212 rfl (lv_at hl 0 rfl) ?_
  refine lv_imul hx hb dX9_init_213 ?_
  refine va_iast hx hb hE.1 hP hD hS 6 0 rfl rfl (q_in (by decide +kernel)) dX9_init_214 (fun H locs hP1 hD1 hS1 => ?_)
  replace hP : va_P D vwCl (wg9 cI cZ d (q_su T8 5 ((0 : Int32).toNatClampNeg) (3 * 0))) H := hP1
  replace hD : va_D A (wg9 cI cZ d (q_su T8 5 ((0 : Int32).toNatClampNeg) (3 * 0))) := hD1
  replace hS := hS1
  clear hP1 hD1 hS1
  obtain ⟨T9, eT9⟩ : ∃ z : St, z = q_su T8 5 ((0 : Int32).toNatClampNeg) (3 * 0) := ⟨_, rfl⟩
  rw [← eT9] at hP hD
  refine lv_iinc (v := 1) (lv' := [(1, .int 1), (0, .ref (d 0))]) hx hb dX9_init_215 hl (k := 0) rfl (by decide) (by decide) rfl (fun ls hl => ?_)
  refine lv_goto (tgt := 201) hx hb dX9_init_218 (by decide) ?_
  refine lv_iload_n hx hb dX9_init_201 rfl (lv_at hl 0 rfl) ?_
  refine lv_iconst (v := 4) hx hb dX9_init_202 (by decide) ?_
  refine lv_icmp_ge (tgt := 221) hx hb dX9_init_203 (by decide) (fun c1 => absurd c1 (by decide)) (fun _ => ?_)
  refine lv_aload_n hx hb dX9_init_206 rfl (lv_at hl 1 rfl) ?_
  refine va_get (D := D) (ci := 9) (v := .ref (d 6)) (C := RX9) (T := TX9) (N := 37) hx hb hts hi9 hown hE.1 hP 0 rfl rfl 5 (by decide) hw9 (fun _ h9 => h9) rfl dX9_init_207 ?_
  refine lv_iload_n hx hb dX9_init_210 rfl (lv_at hl 0 rfl) ?_
  refine lv_iconst (v := 3) hx hb dX9_init_211 (by decide) ?_
  refine lv_iload_n hx hb dX9_init_212 rfl (lv_at hl 0 rfl) ?_
  refine lv_imul hx hb dX9_init_213 ?_
  refine va_iast hx hb hE.1 hP hD hS 6 0 rfl rfl (q_in (by decide +kernel)) dX9_init_214 (fun H locs hP1 hD1 hS1 => ?_)
  replace hP : va_P D vwCl (wg9 cI cZ d (q_su T9 5 ((1 : Int32).toNatClampNeg) (3 * 1))) H := hP1
  replace hD : va_D A (wg9 cI cZ d (q_su T9 5 ((1 : Int32).toNatClampNeg) (3 * 1))) := hD1
  replace hS := hS1
  clear hP1 hD1 hS1
  obtain ⟨T10, eT10⟩ : ∃ z : St, z = q_su T9 5 ((1 : Int32).toNatClampNeg) (3 * 1) := ⟨_, rfl⟩
  rw [← eT10] at hP hD
  refine lv_iinc (v := 2) (lv' := [(1, .int 2), (0, .ref (d 0))]) hx hb dX9_init_215 hl (k := 0) rfl (by decide) (by decide) rfl (fun ls hl => ?_)
  refine lv_goto (tgt := 201) hx hb dX9_init_218 (by decide) ?_
  refine lv_iload_n hx hb dX9_init_201 rfl (lv_at hl 0 rfl) ?_
  refine lv_iconst (v := 4) hx hb dX9_init_202 (by decide) ?_
  refine lv_icmp_ge (tgt := 221) hx hb dX9_init_203 (by decide) (fun c1 => absurd c1 (by decide)) (fun _ => ?_)
  refine lv_aload_n hx hb dX9_init_206 rfl (lv_at hl 1 rfl) ?_
  refine va_get (D := D) (ci := 9) (v := .ref (d 6)) (C := RX9) (T := TX9) (N := 37) hx hb hts hi9 hown hE.1 hP 0 rfl rfl 5 (by decide) hw9 (fun _ h9 => h9) rfl dX9_init_207 ?_
  refine lv_iload_n hx hb dX9_init_210 rfl (lv_at hl 0 rfl) ?_
  refine lv_iconst (v := 3) hx hb dX9_init_211 (by decide) ?_
  refine lv_iload_n hx hb dX9_init_212 rfl (lv_at hl 0 rfl) ?_
  refine lv_imul hx hb dX9_init_213 ?_
  refine va_iast hx hb hE.1 hP hD hS 6 0 rfl rfl (q_in (by decide +kernel)) dX9_init_214 (fun H locs hP1 hD1 hS1 => ?_)
  replace hP : va_P D vwCl (wg9 cI cZ d (q_su T10 5 ((2 : Int32).toNatClampNeg) (3 * 2))) H := hP1
  replace hD : va_D A (wg9 cI cZ d (q_su T10 5 ((2 : Int32).toNatClampNeg) (3 * 2))) := hD1
  replace hS := hS1
  clear hP1 hD1 hS1
  obtain ⟨T11, eT11⟩ : ∃ z : St, z = q_su T10 5 ((2 : Int32).toNatClampNeg) (3 * 2) := ⟨_, rfl⟩
  rw [← eT11] at hP hD
  refine lv_iinc (v := 3) (lv' := [(1, .int 3), (0, .ref (d 0))]) hx hb dX9_init_215 hl (k := 0) rfl (by decide) (by decide) rfl (fun ls hl => ?_)
  refine lv_goto (tgt := 201) hx hb dX9_init_218 (by decide) ?_
  refine lv_iload_n hx hb dX9_init_201 rfl (lv_at hl 0 rfl) ?_
  refine lv_iconst (v := 4) hx hb dX9_init_202 (by decide) ?_
  refine lv_icmp_ge (tgt := 221) hx hb dX9_init_203 (by decide) (fun c1 => absurd c1 (by decide)) (fun _ => ?_)
  refine lv_aload_n hx hb dX9_init_206 rfl (lv_at hl 1 rfl) ?_
  refine va_get (D := D) (ci := 9) (v := .ref (d 6)) (C := RX9) (T := TX9) (N := 37) hx hb hts hi9 hown hE.1 hP 0 rfl rfl 5 (by decide) hw9 (fun _ h9 => h9) rfl dX9_init_207 ?_
  refine lv_iload_n hx hb dX9_init_210 rfl (lv_at hl 0 rfl) ?_
  refine lv_iconst (v := 3) hx hb dX9_init_211 (by decide) ?_
  refine lv_iload_n hx hb dX9_init_212 rfl (lv_at hl 0 rfl) ?_
  refine lv_imul hx hb dX9_init_213 ?_
  refine va_iast hx hb hE.1 hP hD hS 6 0 rfl rfl (q_in (by decide +kernel)) dX9_init_214 (fun H locs hP1 hD1 hS1 => ?_)
  replace hP : va_P D vwCl (wg9 cI cZ d (q_su T11 5 ((3 : Int32).toNatClampNeg) (3 * 3))) H := hP1
  replace hD : va_D A (wg9 cI cZ d (q_su T11 5 ((3 : Int32).toNatClampNeg) (3 * 3))) := hD1
  replace hS := hS1
  clear hP1 hD1 hS1
  obtain ⟨T12, eT12⟩ : ∃ z : St, z = q_su T11 5 ((3 : Int32).toNatClampNeg) (3 * 3) := ⟨_, rfl⟩
  rw [← eT12] at hP hD
  refine lv_iinc (v := 4) (lv' := [(1, .int 4), (0, .ref (d 0))]) hx hb dX9_init_215 hl (k := 0) rfl (by decide) (by decide) rfl (fun ls hl => ?_)
  refine lv_goto (tgt := 201) hx hb dX9_init_218 (by decide) ?_
  refine lv_iload_n hx hb dX9_init_201 rfl (lv_at hl 0 rfl) ?_
  refine lv_iconst (v := 4) hx hb dX9_init_202 (by decide) ?_
  refine lv_icmp_ge (tgt := 221) hx hb dX9_init_203 (by decide) (fun _ => ?_) (fun c1 => absurd (by decide) c1)
  refine lv_aload_n hx hb dX9_init_221 rfl (lv_at hl 1 rfl) ?_
  refine lv_iconst (v := 1) hx hb dX9_init_222 (by decide) ?_
  refine va_put (D := D) (ci := 9) (v := .int 1) (ty := .int) (C := RX9) (T := TX9) (N := 37) hx hb hts hi9 tyX9 tyX9_ok nmX9 hown hE.1 hP hD hS 0 rfl rfl 9 (by decide) hw27 (fun _ h9 => h9) rfl (by decide +kernel) rfl rfl (Nat.le_of_ble_eq_true rfl) dX9_init_223 (fun H locs hP1 hD1 hS1 => ?_)
  replace hP : va_P D vwCl (wg9 cI cZ d (q_su T12 9 0 1)) H := hP1
  replace hD : va_D A (wg9 cI cZ d (q_su T12 9 0 1)) := hD1
  replace hS := hS1
  clear hP1 hD1 hS1
  obtain ⟨T13, eT13⟩ : ∃ z : St, z = q_su T12 9 0 1 := ⟨_, rfl⟩
  rw [← eT13] at hP hD
  have eF : T13 = sX9 := by
    rw [eT13, eT12, eT11, eT10, eT9, eT8, eT7, eT6, eT5, eT4, eT3, eT2, eT1, eT0]
    rfl
  rw [eF] at hP hD
  exact W.vret hx hb hr (fun t e1 hW => ⟨⟨(), rfl, trivial, d, ed0, by rw [e1]; exact hP, hAe ▸ hD⟩, hAe ▸ hS.F e1⟩) (hAe ▸ hS.2.2) dX9_init_226
