def sX3 : St := (q_su (q_su (q_su (q_su (fun _ _ => 0) 3 0 (-6)) 4 0 (-6)) 6 0 (-6)) 7 0 (-6))
abbrev rmX3_init : Room := { frames := 2, cells := 11, slots := 70, locals := 33 }
set_option maxHeartbeats 8000000 in
set_option maxRecDepth 100000 in
theorem kX3_init (l : Launch) (D : va_G) (cI cZ cO : ClassId) (h0 sz : Nat) : Met l yX3_init wsX3_init rmX3_init (q_PM D cI cZ cO [.ref h0] sz ([(h0, .inr (3, [.null, .null, .int 0, .int 0, .int 0, .int 0, .int 0, .int 0]))] : va_W)) (va_Qv (fun _ : Unit => True) (fun _ t => ∃ d d1 d2 : Nat → Nat, d 0 = h0 ∧ va_P D vwCl (wg3 d d1 d2 sX3 ++ (wg5 cI cZ d1 sX5 ++ wg0 cI cZ d2 sX0)) t.heap ∧ va_D (va_A ([(h0, .inr (3, [.null, .null, .int 0, .int 0, .int 0, .int 0, .int 0, .int 0]))] : va_W) sz) (wg3 d d1 d2 sX3 ++ (wg5 cI cZ d1 sX5 ++ wg0 cI cZ d2 sX0))) (va_A ([(h0, .inr (3, [.null, .null, .int 0, .int 0, .int 0, .int 0, .int 0, .int 0]))] : va_W) sz)) 11 70 (va_A ([(h0, .inr (3, [.null, .null, .int 0, .int 0, .int 0, .int 0, .int 0, .int 0]))] : va_W) sz) := by
  refine Met.ofW (cc := cX3_init) (maxL := 1) (ret := none) (by decide) rfl ?_
  intro p e s m args below meth c s₁ B hml hv
  obtain ⟨rfl, hsz, hE, hP, hD0⟩ := hv
  have hx := B.exec
  have hb := B.bytes
  have hr := B.returns
  have hts := atoms_spec (ws := wsX3_init) B.pre
  have hown : s.vm.findClass RX3 = some m.cls := findClass_of_methodNamed B.named
  have hlocks := B.notSynchronized
  have hin : meth.name = "<init>" := (name_of_methodNamed B.named B.method).1
  have hi5 : ∀ w ∈ u_ws RX5 TX5 11, w ∈ wsX3_init := by decide +kernel
  have hi3 : ∀ w ∈ u_ws RX3 TX3 8, w ∈ wsX3_init := by decide +kernel
  have hi0 : ∀ w ∈ u_ws RX0 TX0 3, w ∈ wsX3_init := by decide +kernel
  have hw0 := hts (.methodLink RX3 3 objectInit) (by decide +kernel)
  have hw1 := hts (.instanceMethod objectInit) (by decide +kernel)
  have hw2 := hts (.code objectInit ⟨#[0xb1]⟩ 1 none) (by decide +kernel)
  have hw3 := hts (.classLink RX3 9 RX5) (by decide +kernel)
  have hw4 := hts (.instantiable RX5 11) (by decide +kernel)
  have hw5 := hts (.initialized RX5) (by decide +kernel)
  have hw6 := hts (.methodLink RX3 11 yX5_init) (by decide +kernel)
  have hw7 := hts (.instanceMethod yX5_init) (by decide +kernel)
  have hw8 := hts (.fieldLink RX3 12 "HailNames$Outcome" "after" "LHailNames$Plain;") (by decide +kernel)
  have hw9 := hts (.classLink RX3 18 RX0) (by decide +kernel)
  have hw10 := hts (.instantiable RX0 3) (by decide +kernel)
  have hw11 := hts (.initialized RX0) (by decide +kernel)
  have hw12 := hts (.instanceMethod yX0_init) (by decide +kernel)
  have hw13 := hts (.fieldLink RX3 21 "HailNames$Outcome" "act" "LHailNames$Act;") (by decide +kernel)
  have hw14 := hts (.fieldLink RX3 25 "HailNames$Outcome" "acts" "I") (by decide +kernel)
  have hw15 := hts (.fieldLink RX3 29 "HailNames$Outcome" "badAct" "I") (by decide +kernel)
  have hw16 := hts (.fieldLink RX3 32 "HailNames$Outcome" "why" "I") (by decide +kernel)
  have hw17 := hts (.fieldLink RX3 35 "HailNames$Outcome" "stonesLost" "I") (by decide +kernel)
  have hw18 := hts (.fieldLink RX3 38 "HailNames$Outcome" "lossAct" "I") (by decide +kernel)
  have hw19 := hts (.fieldLink RX3 41 "HailNames$Outcome" "lossPerson" "I") (by decide +kernel)
  subst hsz
  have hD := hD0.self (sz := s.heap.size)
  generalize hAe : va_A ([(h0, .inr (3, [.null, .null, .int 0, .int 0, .int 0, .int 0, .int 0, .int 0]))] : va_W) s.heap.size = A at hD
  have hA : ∀ q : Nat, s.heap.size ≤ q → A q := fun q h => by rw [← hAe]; exact Or.inr h
  have hS : va_S A s.heap s.heap [] := va_S.rf
  have hl := lv_entry ([.ref h0]) (n := 1) (Nat.le_of_ble_eq_true rfl)
  rw [lg_entry_eq]
  generalize (lg_sl ([.ref h0]) ++ List.replicate (1 - (lg_sl ([.ref h0])).length) Slot.unset).toArray = ls at hl ⊢
  have hl : lv_has ls 1 [(0, .ref h0)] := hl
  obtain ⟨H, hH⟩ : ∃ H, H = s.heap := ⟨_, rfl⟩
  rw [← hH] at hP
  have hS : va_S A s.heap H [] := by rw [hH]; exact hS
  rw [show W p l e (headSpec wsX3_init rmX3_init).room s m ([.ref h0] : List Value).toArray below meth c s.heap = W p l e (headSpec wsX3_init rmX3_init).room s m ([.ref h0] : List Value).toArray below meth c H by rw [hH]]
  refine lv_aload_n hx hb dX3_init_0 rfl (lv_at hl 0 rfl) ?_
  refine W.objInit hx hb hown hw0 hw1 hw2 rfl (by rw [hml]; exact hl.1) rfl dX3_init_1 (Nat.le_of_ble_eq_true rfl) (Nat.le_of_ble_eq_true rfl) ?_
  refine W.eq (g2 := F0 m 4 ls []) rfl ?_
  refine lv_aload_n hx hb dX3_init_4 rfl (lv_at hl 0 rfl) ?_
  refine va_new (ci := 5) (fs := [.null, .null, .null, .null, .null, .null, .null, .null, .null, .int 0, .int 0]) (C := RX5) (T := TX5) (N := 11) hx hb hts hi5 tyX5 tyX5_ok hown hw3 hw4 hw5 hE.1 hP hD hS hA rfl (fun j hj => by rcases (show j = 0 ∨ j = 1 ∨ j = 2 ∨ j = 3 ∨ j = 4 ∨ j = 5 ∨ j = 6 ∨ j = 7 ∨ j = 8 ∨ j = 9 ∨ j = 10 by omega) with rfl | rfl | rfl | rfl | rfl | rfl | rfl | rfl | rfl | rfl | rfl <;> rfl) (Nat.le_of_ble_eq_true rfl) (Nat.le_of_ble_eq_true rfl) dX3_init_5 (fun q1 H hP1 hD1 hS1 => ?_)
  replace hP : va_P D vwCl ([(h0, .inr (3, [.null, .null, .int 0, .int 0, .int 0, .int 0, .int 0, .int 0])), (q1, .inr (5, [.null, .null, .null, .null, .null, .null, .null, .null, .null, .int 0, .int 0]))]) H := hP1
  replace hD : va_D A ([(h0, .inr (3, [.null, .null, .int 0, .int 0, .int 0, .int 0, .int 0, .int 0])), (q1, .inr (5, [.null, .null, .null, .null, .null, .null, .null, .null, .null, .int 0, .int 0]))]) := hD1
  replace hS := hS1
  clear hP1 hD1 hS1
  refine W.widen (k := 1) (n := 11) (Nat.le_of_ble_eq_true rfl) (Nat.le_of_ble_eq_true rfl) ?_
  refine lv_dup hx hb dX3_init_8 rfl ?_
  have hPc : va_P D vwCl ([(q1, .inr (5, [.null, .null, .null, .null, .null, .null, .null, .null, .null, .int 0, .int 0]))]) H := hP.sub [1] rfl
  have hDc : va_D A ([(q1, .inr (5, [.null, .null, .null, .null, .null, .null, .null, .null, .null, .int 0, .int 0]))]) := hD.sub [1] (by decide) rfl
  have hFc := va_free (wc := ([(q1, .inr (5, [.null, .null, .null, .null, .null, .null, .null, .null, .null, .int 0, .int 0]))])) hD hS hA [1] rfl
  refine q_iv (va_runI (As := []) (rest := [.ref q1, .ref h0]) ⟨hx, hb, hml, hown, hts⟩ (kX5_init l D cI cZ cO q1 H.size) (cwI 0 hts gX3_init_X5_init rfl rfl rfl hw5 hw6 hw7 rfl (by decide +kernel) ⟨Nat.le_of_ble_eq_true rfl, Nat.le_of_ble_eq_true rfl⟩) (q_mS hE hPc hDc) rfl rfl hl.1 rfl (lv_room (Nat.le_of_ble_eq_true rfl)) dX3_init_9 ⟨Nat.le_of_ble_eq_true rfl, Nat.le_of_ble_eq_true rfl⟩) hS hFc hFc (fun t H locs e1 hB hk hS1 => ?_)
  obtain ⟨d2, rfl, hP1, hD1⟩ := hB
  rw [e1] at hP1
  obtain ⟨hP2, hD2⟩ := va_join (wr := ([(h0, .inr (3, [.null, .null, .int 0, .int 0, .int 0, .int 0, .int 0, .int 0]))])) (w1 := (wg5 cI cZ d2 sX5)) hP hD [1] [0] rfl rfl (by decide) (by decide) hk hFc hP1 hD1
  clear hP1 hD1 hPc hDc
  have hP1 := hP2
  have hD1 := hD2
  clear hP2 hD2
  replace hP : va_P D vwCl ([(h0, .inr (3, [.null, .null, .int 0, .int 0, .int 0, .int 0, .int 0, .int 0]))] ++ (wg5 cI cZ d2 sX5)) H := hP1
  replace hD : va_D A ([(h0, .inr (3, [.null, .null, .int 0, .int 0, .int 0, .int 0, .int 0, .int 0]))] ++ (wg5 cI cZ d2 sX5)) := hD1
  replace hS := hS1
  clear hP1 hD1 hS1
  refine W.widen (k := 10) (n := 67) (Nat.le_of_ble_eq_true rfl) (Nat.le_of_ble_eq_true rfl) ?_
  refine va_putF (D := D) (ci := 3) (v := .ref (d2 0)) (ty := .object "HailNames$Plain") (C := RX3) (T := TX3) (N := 8) hx hb hts hi3 tyX3 tyX3_ok nmX3 hown hE.1 hP hD hS 0 rfl rfl 0 (by decide) hw8 (fun _ h9 => h9) rfl hin rfl (by decide +kernel) rfl rfl (Nat.le_of_ble_eq_true rfl) dX3_init_12 (fun H locs hP1 hD1 hS1 => ?_)
  replace hP : va_P D vwCl ([(h0, .inr (3, [.ref (d2 0), .null, .int 0, .int 0, .int 0, .int 0, .int 0, .int 0]))] ++ (wg5 cI cZ d2 sX5)) H := hP1
  replace hD : va_D A ([(h0, .inr (3, [.ref (d2 0), .null, .int 0, .int 0, .int 0, .int 0, .int 0, .int 0]))] ++ (wg5 cI cZ d2 sX5)) := hD1
  replace hS := hS1
  clear hP1 hD1 hS1
  refine lv_aload_n hx hb dX3_init_15 rfl (lv_at hl 0 rfl) ?_
  refine va_new (ci := 0) (fs := [.int 0, .int 0, .int 0]) (C := RX0) (T := TX0) (N := 3) hx hb hts hi0 tyX0 tyX0_ok hown hw9 hw10 hw11 hE.1 hP hD hS hA rfl (fun j hj => by rcases (show j = 0 ∨ j = 1 ∨ j = 2 by omega) with rfl | rfl | rfl <;> rfl) (Nat.le_of_ble_eq_true rfl) (Nat.le_of_ble_eq_true rfl) dX3_init_16 (fun q3 H hP1 hD1 hS1 => ?_)
  replace hP : va_P D vwCl ([(h0, .inr (3, [.ref (d2 0), .null, .int 0, .int 0, .int 0, .int 0, .int 0, .int 0]))] ++ (wg5 cI cZ d2 sX5 ++ ([(q3, .inr (0, [.int 0, .int 0, .int 0]))]))) H := hP1
  replace hD : va_D A ([(h0, .inr (3, [.ref (d2 0), .null, .int 0, .int 0, .int 0, .int 0, .int 0, .int 0]))] ++ (wg5 cI cZ d2 sX5 ++ ([(q3, .inr (0, [.int 0, .int 0, .int 0]))]))) := hD1
  replace hS := hS1
  clear hP1 hD1 hS1
  refine W.widen (k := 11) (n := 70) (Nat.le_of_ble_eq_true rfl) (Nat.le_of_ble_eq_true rfl) ?_
  refine lv_dup hx hb dX3_init_19 rfl ?_
  have hPc : va_P D vwCl ([(q3, .inr (0, [.int 0, .int 0, .int 0]))]) H := hP.sub [11] rfl
  have hDc : va_D A ([(q3, .inr (0, [.int 0, .int 0, .int 0]))]) := hD.sub [11] (by decide) rfl
  have hFc := va_free (wc := ([(q3, .inr (0, [.int 0, .int 0, .int 0]))])) hD hS hA [11] rfl
  refine q_iv (va_runIN (As := []) (rest := [.ref q3, .ref h0]) ⟨hx, hb, hml, hown, hts⟩ (kX0_init l D cI cZ cO q3 H.size) ⟨va_cnB 0 hts gX3_init_X0_init_n20 rfl rfl rfl hE.2.2.2.1 hw11 (by decide +kernel) ⟨Nat.le_of_ble_eq_true rfl, Nat.le_of_ble_eq_true rfl⟩, rfl, hw12⟩ (q_mS hE hPc hDc) rfl rfl hl.1 rfl (lv_room (Nat.le_of_ble_eq_true rfl)) dX3_init_20 ⟨Nat.le_of_ble_eq_true rfl, Nat.le_of_ble_eq_true rfl⟩) hS hFc hFc (fun t H locs e1 hB hk hS1 => ?_)
  obtain ⟨d4, rfl, hP1, hD1⟩ := hB
  rw [e1] at hP1
  obtain ⟨hP2, hD2⟩ := va_join (wr := ([(h0, .inr (3, [.ref (d2 0), .null, .int 0, .int 0, .int 0, .int 0, .int 0, .int 0]))] ++ (wg5 cI cZ d2 sX5))) (w1 := (wg0 cI cZ d4 sX0)) hP hD [11] [0, 1, 2, 3, 4, 5, 6, 7, 8, 9, 10] rfl rfl (by decide) (by decide) hk hFc hP1 hD1
  clear hP1 hD1 hPc hDc
  have hP1 := hP2
  have hD1 := hD2
  clear hP2 hD2
  replace hP : va_P D vwCl ([(h0, .inr (3, [.ref (d2 0), .null, .int 0, .int 0, .int 0, .int 0, .int 0, .int 0]))] ++ (wg5 cI cZ d2 sX5 ++ (wg0 cI cZ d4 sX0))) H := hP1
  replace hD : va_D A ([(h0, .inr (3, [.ref (d2 0), .null, .int 0, .int 0, .int 0, .int 0, .int 0, .int 0]))] ++ (wg5 cI cZ d2 sX5 ++ (wg0 cI cZ d4 sX0))) := hD1
  replace hS := hS1
  clear hP1 hD1 hS1
  refine W.widen (k := 11) (n := 70) (Nat.le_of_ble_eq_true rfl) (Nat.le_of_ble_eq_true rfl) ?_
  refine va_putF (D := D) (ci := 3) (v := .ref (d4 0)) (ty := .object "HailNames$Act") (C := RX3) (T := TX3) (N := 8) hx hb hts hi3 tyX3 tyX3_ok nmX3 hown hE.1 hP hD hS 0 rfl rfl 1 (by decide) hw13 (fun _ h9 => h9) rfl hin rfl (by decide +kernel) rfl rfl (Nat.le_of_ble_eq_true rfl) dX3_init_23 (fun H locs hP1 hD1 hS1 => ?_)
  replace hP : va_P D vwCl ([(h0, .inr (3, [.ref (d2 0), .ref (d4 0), .int 0, .int 0, .int 0, .int 0, .int 0, .int 0]))] ++ (wg5 cI cZ d2 sX5 ++ (wg0 cI cZ d4 sX0))) H := hP1
  replace hD : va_D A ([(h0, .inr (3, [.ref (d2 0), .ref (d4 0), .int 0, .int 0, .int 0, .int 0, .int 0, .int 0]))] ++ (wg5 cI cZ d2 sX5 ++ (wg0 cI cZ d4 sX0))) := hD1
  replace hS := hS1
  clear hP1 hD1 hS1
  refine lv_aload_n hx hb dX3_init_26 rfl (lv_at hl 0 rfl) ?_
  refine lv_iconst (v := 0) hx hb dX3_init_27 (by decide) ?_
  refine va_put (D := D) (ci := 3) (v := .int 0) (ty := .int) (C := RX3) (T := TX3) (N := 8) hx hb hts hi3 tyX3 tyX3_ok nmX3 hown hE.1 hP hD hS 0 rfl rfl 2 (by decide) hw14 (fun _ h9 => h9) rfl (by decide +kernel) rfl rfl (Nat.le_of_ble_eq_true rfl) dX3_init_28 (fun H locs hP1 hD1 hS1 => ?_)
  replace hP : va_P D vwCl ([(h0, .inr (3, [.ref (d2 0), .ref (d4 0), .int 0, .int 0, .int 0, .int 0, .int 0, .int 0]))] ++ (wg5 cI cZ d2 sX5 ++ (wg0 cI cZ d4 sX0))) H := hP1
  replace hD : va_D A ([(h0, .inr (3, [.ref (d2 0), .ref (d4 0), .int 0, .int 0, .int 0, .int 0, .int 0, .int 0]))] ++ (wg5 cI cZ d2 sX5 ++ (wg0 cI cZ d4 sX0))) := hD1
  replace hS := hS1
  clear hP1 hD1 hS1
  refine lv_aload_n hx hb dX3_init_31 rfl (lv_at hl 0 rfl) ?_
  refine lv_bipush (v := (-6)) hx hb dX3_init_32 (by decide) ?_
  refine va_put (D := D) (ci := 3) (v := .int (-6)) (ty := .int) (C := RX3) (T := TX3) (N := 8) hx hb hts hi3 tyX3 tyX3_ok nmX3 hown hE.1 hP hD hS 0 rfl rfl 3 (by decide) hw15 (fun _ h9 => h9) rfl (by decide +kernel) rfl rfl (Nat.le_of_ble_eq_true rfl) dX3_init_34 (fun H locs hP1 hD1 hS1 => ?_)
  replace hP : va_P D vwCl ([(h0, .inr (3, [.ref (d2 0), .ref (d4 0), .int 0, .int (-6), .int 0, .int 0, .int 0, .int 0]))] ++ (wg5 cI cZ d2 sX5 ++ (wg0 cI cZ d4 sX0))) H := hP1
  replace hD : va_D A ([(h0, .inr (3, [.ref (d2 0), .ref (d4 0), .int 0, .int (-6), .int 0, .int 0, .int 0, .int 0]))] ++ (wg5 cI cZ d2 sX5 ++ (wg0 cI cZ d4 sX0))) := hD1
  replace hS := hS1
  clear hP1 hD1 hS1
  refine lv_aload_n hx hb dX3_init_37 rfl (lv_at hl 0 rfl) ?_
  refine lv_bipush (v := (-6)) hx hb dX3_init_38 (by decide) ?_
  refine va_put (D := D) (ci := 3) (v := .int (-6)) (ty := .int) (C := RX3) (T := TX3) (N := 8) hx hb hts hi3 tyX3 tyX3_ok nmX3 hown hE.1 hP hD hS 0 rfl rfl 4 (by decide) hw16 (fun _ h9 => h9) rfl (by decide +kernel) rfl rfl (Nat.le_of_ble_eq_true rfl) dX3_init_40 (fun H locs hP1 hD1 hS1 => ?_)
  replace hP : va_P D vwCl ([(h0, .inr (3, [.ref (d2 0), .ref (d4 0), .int 0, .int (-6), .int (-6), .int 0, .int 0, .int 0]))] ++ (wg5 cI cZ d2 sX5 ++ (wg0 cI cZ d4 sX0))) H := hP1
  replace hD : va_D A ([(h0, .inr (3, [.ref (d2 0), .ref (d4 0), .int 0, .int (-6), .int (-6), .int 0, .int 0, .int 0]))] ++ (wg5 cI cZ d2 sX5 ++ (wg0 cI cZ d4 sX0))) := hD1
  replace hS := hS1
  clear hP1 hD1 hS1
  refine lv_aload_n hx hb dX3_init_43 rfl (lv_at hl 0 rfl) ?_
  refine lv_iconst (v := 0) hx hb dX3_init_44 (by decide) ?_
  refine va_put (D := D) (ci := 3) (v := .int 0) (ty := .int) (C := RX3) (T := TX3) (N := 8) hx hb hts hi3 tyX3 tyX3_ok nmX3 hown hE.1 hP hD hS 0 rfl rfl 5 (by decide) hw17 (fun _ h9 => h9) rfl (by decide +kernel) rfl rfl (Nat.le_of_ble_eq_true rfl) dX3_init_45 (fun H locs hP1 hD1 hS1 => ?_)
  replace hP : va_P D vwCl ([(h0, .inr (3, [.ref (d2 0), .ref (d4 0), .int 0, .int (-6), .int (-6), .int 0, .int 0, .int 0]))] ++ (wg5 cI cZ d2 sX5 ++ (wg0 cI cZ d4 sX0))) H := hP1
  replace hD : va_D A ([(h0, .inr (3, [.ref (d2 0), .ref (d4 0), .int 0, .int (-6), .int (-6), .int 0, .int 0, .int 0]))] ++ (wg5 cI cZ d2 sX5 ++ (wg0 cI cZ d4 sX0))) := hD1
  replace hS := hS1
  clear hP1 hD1 hS1
  refine lv_aload_n hx hb dX3_init_48 rfl (lv_at hl 0 rfl) ?_
  refine lv_bipush (v := (-6)) hx hb dX3_init_49 (by decide) ?_
  refine va_put (D := D) (ci := 3) (v := .int (-6)) (ty := .int) (C := RX3) (T := TX3) (N := 8) hx hb hts hi3 tyX3 tyX3_ok nmX3 hown hE.1 hP hD hS 0 rfl rfl 6 (by decide) hw18 (fun _ h9 => h9) rfl (by decide +kernel) rfl rfl (Nat.le_of_ble_eq_true rfl) dX3_init_51 (fun H locs hP1 hD1 hS1 => ?_)
  replace hP : va_P D vwCl ([(h0, .inr (3, [.ref (d2 0), .ref (d4 0), .int 0, .int (-6), .int (-6), .int 0, .int (-6), .int 0]))] ++ (wg5 cI cZ d2 sX5 ++ (wg0 cI cZ d4 sX0))) H := hP1
  replace hD : va_D A ([(h0, .inr (3, [.ref (d2 0), .ref (d4 0), .int 0, .int (-6), .int (-6), .int 0, .int (-6), .int 0]))] ++ (wg5 cI cZ d2 sX5 ++ (wg0 cI cZ d4 sX0))) := hD1
  replace hS := hS1
  clear hP1 hD1 hS1
  refine lv_aload_n hx hb dX3_init_54 rfl (lv_at hl 0 rfl) ?_
  refine lv_bipush (v := (-6)) hx hb dX3_init_55 (by decide) ?_
  refine va_put (D := D) (ci := 3) (v := .int (-6)) (ty := .int) (C := RX3) (T := TX3) (N := 8) hx hb hts hi3 tyX3 tyX3_ok nmX3 hown hE.1 hP hD hS 0 rfl rfl 7 (by decide) hw19 (fun _ h9 => h9) rfl (by decide +kernel) rfl rfl (Nat.le_of_ble_eq_true rfl) dX3_init_57 (fun H locs hP1 hD1 hS1 => ?_)
  replace hP : va_P D vwCl ([(h0, .inr (3, [.ref (d2 0), .ref (d4 0), .int 0, .int (-6), .int (-6), .int 0, .int (-6), .int (-6)]))] ++ (wg5 cI cZ d2 sX5 ++ (wg0 cI cZ d4 sX0))) H := hP1
  replace hD : va_D A ([(h0, .inr (3, [.ref (d2 0), .ref (d4 0), .int 0, .int (-6), .int (-6), .int 0, .int (-6), .int (-6)]))] ++ (wg5 cI cZ d2 sX5 ++ (wg0 cI cZ d4 sX0))) := hD1
  replace hS := hS1
  clear hP1 hD1 hS1
  have hP9 : va_P D vwCl (wg3 (fun _ => h0) d2 d4 sX3 ++ (wg5 cI cZ d2 sX5 ++ wg0 cI cZ d4 sX0)) H := hP
  have hD9 : va_D A (wg3 (fun _ => h0) d2 d4 sX3 ++ (wg5 cI cZ d2 sX5 ++ wg0 cI cZ d4 sX0)) := hD
  exact W.vret hx hb hr (fun t e1 hW => ⟨⟨(), rfl, trivial, (fun _ => h0), d2, d4, rfl, by rw [e1]; exact hP9, hAe ▸ hD9⟩, hAe ▸ hS.F e1⟩) (hAe ▸ hS.2.2) dX3_init_60
def sX1 : St := (fun _ _ => 0)
abbrev rmX1_init : Room := { frames := 2, cells := 14, slots := 95, locals := 33 }
set_option maxHeartbeats 8000000 in
set_option maxRecDepth 100000 in
theorem kX1_init (l : Launch) (D : va_G) (cI cZ cO : ClassId) (h0 sz : Nat) : Met l yX1_init wsX1_init rmX1_init (q_PM D cI cZ cO [.ref h0] sz ([(h0, .inr (1, [.null, .null, .int 0]))] : va_W)) (va_Qv (fun _ : Unit => True) (fun _ t => ∃ d d1 d2 : Nat → Nat, d 0 = h0 ∧ va_P D vwCl (wg1 d d1 d2 sX1 ++ (wg5 cI cZ d1 sX5 ++ wg7 cI cZ d2 sX7)) t.heap ∧ va_D (va_A ([(h0, .inr (1, [.null, .null, .int 0]))] : va_W) sz) (wg1 d d1 d2 sX1 ++ (wg5 cI cZ d1 sX5 ++ wg7 cI cZ d2 sX7))) (va_A ([(h0, .inr (1, [.null, .null, .int 0]))] : va_W) sz)) 14 95 (va_A ([(h0, .inr (1, [.null, .null, .int 0]))] : va_W) sz) := by
  refine Met.ofW (cc := cX1_init) (maxL := 1) (ret := none) (by decide) rfl ?_
  intro p e s m args below meth c s₁ B hml hv
  obtain ⟨rfl, hsz, hE, hP, hD0⟩ := hv
  have hx := B.exec
  have hb := B.bytes
  have hr := B.returns
  have hts := atoms_spec (ws := wsX1_init) B.pre
  have hown : s.vm.findClass RX1 = some m.cls := findClass_of_methodNamed B.named
  have hlocks := B.notSynchronized
  have hin : meth.name = "<init>" := (name_of_methodNamed B.named B.method).1
  have hi5 : ∀ w ∈ u_ws RX5 TX5 11, w ∈ wsX1_init := by decide +kernel
  have hi1 : ∀ w ∈ u_ws RX1 TX1 3, w ∈ wsX1_init := by decide +kernel
  have hi7 : ∀ w ∈ u_ws RX7 TX7 4, w ∈ wsX1_init := by decide +kernel
  have hw0 := hts (.methodLink RX1 1 objectInit) (by decide +kernel)
  have hw1 := hts (.instanceMethod objectInit) (by decide +kernel)
  have hw2 := hts (.code objectInit ⟨#[0xb1]⟩ 1 none) (by decide +kernel)
  have hw3 := hts (.classLink RX1 7 RX5) (by decide +kernel)
  have hw4 := hts (.instantiable RX5 11) (by decide +kernel)
  have hw5 := hts (.initialized RX5) (by decide +kernel)
  have hw6 := hts (.methodLink RX1 9 yX5_init) (by decide +kernel)
  have hw7 := hts (.instanceMethod yX5_init) (by decide +kernel)
  have hw8 := hts (.fieldLink RX1 10 "HailNames$Image" "plain" "LHailNames$Plain;") (by decide +kernel)
  have hw9 := hts (.classLink RX1 16 RX7) (by decide +kernel)
  have hw10 := hts (.instantiable RX7 4) (by decide +kernel)
  have hw11 := hts (.initialized RX7) (by decide +kernel)
  have hw12 := hts (.instanceMethod yX7_init) (by decide +kernel)
  have hw13 := hts (.fieldLink RX1 19 "HailNames$Image" "sights" "LHailNames$Sights;") (by decide +kernel)
  have hw14 := hts (.fieldLink RX1 23 "HailNames$Image" "kept" "Z") (by decide +kernel)
  subst hsz
  have hD := hD0.self (sz := s.heap.size)
  generalize hAe : va_A ([(h0, .inr (1, [.null, .null, .int 0]))] : va_W) s.heap.size = A at hD
  have hA : ∀ q : Nat, s.heap.size ≤ q → A q := fun q h => by rw [← hAe]; exact Or.inr h
  have hS : va_S A s.heap s.heap [] := va_S.rf
  have hl := lv_entry ([.ref h0]) (n := 1) (Nat.le_of_ble_eq_true rfl)
  rw [lg_entry_eq]
  generalize (lg_sl ([.ref h0]) ++ List.replicate (1 - (lg_sl ([.ref h0])).length) Slot.unset).toArray = ls at hl ⊢
  have hl : lv_has ls 1 [(0, .ref h0)] := hl
  obtain ⟨H, hH⟩ : ∃ H, H = s.heap := ⟨_, rfl⟩
  rw [← hH] at hP
  have hS : va_S A s.heap H [] := by rw [hH]; exact hS
  rw [show W p l e (headSpec wsX1_init rmX1_init).room s m ([.ref h0] : List Value).toArray below meth c s.heap = W p l e (headSpec wsX1_init rmX1_init).room s m ([.ref h0] : List Value).toArray below meth c H by rw [hH]]
  refine lv_aload_n hx hb dX1_init_0 rfl (lv_at hl 0 rfl) ?_
  refine W.objInit hx hb hown hw0 hw1 hw2 rfl (by rw [hml]; exact hl.1) rfl dX1_init_1 (Nat.le_of_ble_eq_true rfl) (Nat.le_of_ble_eq_true rfl) ?_
  refine W.eq (g2 := F0 m 4 ls []) rfl ?_
  refine lv_aload_n hx hb dX1_init_4 rfl (lv_at hl 0 rfl) ?_
  refine va_new (ci := 5) (fs := [.null, .null, .null, .null, .null, .null, .null, .null, .null, .int 0, .int 0]) (C := RX5) (T := TX5) (N := 11) hx hb hts hi5 tyX5 tyX5_ok hown hw3 hw4 hw5 hE.1 hP hD hS hA rfl (fun j hj => by rcases (show j = 0 ∨ j = 1 ∨ j = 2 ∨ j = 3 ∨ j = 4 ∨ j = 5 ∨ j = 6 ∨ j = 7 ∨ j = 8 ∨ j = 9 ∨ j = 10 by omega) with rfl | rfl | rfl | rfl | rfl | rfl | rfl | rfl | rfl | rfl | rfl <;> rfl) (Nat.le_of_ble_eq_true rfl) (Nat.le_of_ble_eq_true rfl) dX1_init_5 (fun q1 H hP1 hD1 hS1 => ?_)
  replace hP : va_P D vwCl ([(h0, .inr (1, [.null, .null, .int 0])), (q1, .inr (5, [.null, .null, .null, .null, .null, .null, .null, .null, .null, .int 0, .int 0]))]) H := hP1
  replace hD : va_D A ([(h0, .inr (1, [.null, .null, .int 0])), (q1, .inr (5, [.null, .null, .null, .null, .null, .null, .null, .null, .null, .int 0, .int 0]))]) := hD1
  replace hS := hS1
  clear hP1 hD1 hS1
  refine W.widen (k := 1) (n := 11) (Nat.le_of_ble_eq_true rfl) (Nat.le_of_ble_eq_true rfl) ?_
  refine lv_dup hx hb dX1_init_8 rfl ?_
  have hPc : va_P D vwCl ([(q1, .inr (5, [.null, .null, .null, .null, .null, .null, .null, .null, .null, .int 0, .int 0]))]) H := hP.sub [1] rfl
  have hDc : va_D A ([(q1, .inr (5, [.null, .null, .null, .null, .null, .null, .null, .null, .null, .int 0, .int 0]))]) := hD.sub [1] (by decide) rfl
  have hFc := va_free (wc := ([(q1, .inr (5, [.null, .null, .null, .null, .null, .null, .null, .null, .null, .int 0, .int 0]))])) hD hS hA [1] rfl
  refine q_iv (va_runI (As := []) (rest := [.ref q1, .ref h0]) ⟨hx, hb, hml, hown, hts⟩ (kX5_init l D cI cZ cO q1 H.size) (cwI 0 hts gX1_init_X5_init rfl rfl rfl hw5 hw6 hw7 rfl (by decide +kernel) ⟨Nat.le_of_ble_eq_true rfl, Nat.le_of_ble_eq_true rfl⟩) (q_mS hE hPc hDc) rfl rfl hl.1 rfl (lv_room (Nat.le_of_ble_eq_true rfl)) dX1_init_9 ⟨Nat.le_of_ble_eq_true rfl, Nat.le_of_ble_eq_true rfl⟩) hS hFc hFc (fun t H locs e1 hB hk hS1 => ?_)
  obtain ⟨d2, rfl, hP1, hD1⟩ := hB
  rw [e1] at hP1
  obtain ⟨hP2, hD2⟩ := va_join (wr := ([(h0, .inr (1, [.null, .null, .int 0]))])) (w1 := (wg5 cI cZ d2 sX5)) hP hD [1] [0] rfl rfl (by decide) (by decide) hk hFc hP1 hD1
  clear hP1 hD1 hPc hDc
  have hP1 := hP2
  have hD1 := hD2
  clear hP2 hD2
  replace hP : va_P D vwCl ([(h0, .inr (1, [.null, .null, .int 0]))] ++ (wg5 cI cZ d2 sX5)) H := hP1
  replace hD : va_D A ([(h0, .inr (1, [.null, .null, .int 0]))] ++ (wg5 cI cZ d2 sX5)) := hD1
  replace hS := hS1
  clear hP1 hD1 hS1
  refine W.widen (k := 10) (n := 67) (Nat.le_of_ble_eq_true rfl) (Nat.le_of_ble_eq_true rfl) ?_
  refine va_putF (D := D) (ci := 1) (v := .ref (d2 0)) (ty := .object "HailNames$Plain") (C := RX1) (T := TX1) (N := 3) hx hb hts hi1 tyX1 tyX1_ok nmX1 hown hE.1 hP hD hS 0 rfl rfl 0 (by decide) hw8 (fun _ h9 => h9) rfl hin rfl (by decide +kernel) rfl rfl (Nat.le_of_ble_eq_true rfl) dX1_init_12 (fun H locs hP1 hD1 hS1 => ?_)
  replace hP : va_P D vwCl ([(h0, .inr (1, [.ref (d2 0), .null, .int 0]))] ++ (wg5 cI cZ d2 sX5)) H := hP1
  replace hD : va_D A ([(h0, .inr (1, [.ref (d2 0), .null, .int 0]))] ++ (wg5 cI cZ d2 sX5)) := hD1
  replace hS := hS1
  clear hP1 hD1 hS1
  refine lv_aload_n hx hb dX1_init_15 rfl (lv_at hl 0 rfl) ?_
  refine va_new (ci := 7) (fs := [.null, .null, .null, .int 0]) (C := RX7) (T := TX7) (N := 4) hx hb hts hi7 tyX7 tyX7_ok hown hw9 hw10 hw11 hE.1 hP hD hS hA rfl (fun j hj => by rcases (show j = 0 ∨ j = 1 ∨ j = 2 ∨ j = 3 by omega) with rfl | rfl | rfl | rfl <;> rfl) (Nat.le_of_ble_eq_true rfl) (Nat.le_of_ble_eq_true rfl) dX1_init_16 (fun q3 H hP1 hD1 hS1 => ?_)
  replace hP : va_P D vwCl ([(h0, .inr (1, [.ref (d2 0), .null, .int 0]))] ++ (wg5 cI cZ d2 sX5 ++ ([(q3, .inr (7, [.null, .null, .null, .int 0]))]))) H := hP1
  replace hD : va_D A ([(h0, .inr (1, [.ref (d2 0), .null, .int 0]))] ++ (wg5 cI cZ d2 sX5 ++ ([(q3, .inr (7, [.null, .null, .null, .int 0]))]))) := hD1
  replace hS := hS1
  clear hP1 hD1 hS1
  refine W.widen (k := 11) (n := 71) (Nat.le_of_ble_eq_true rfl) (Nat.le_of_ble_eq_true rfl) ?_
  refine lv_dup hx hb dX1_init_19 rfl ?_
  have hPc : va_P D vwCl ([(q3, .inr (7, [.null, .null, .null, .int 0]))]) H := hP.sub [11] rfl
  have hDc : va_D A ([(q3, .inr (7, [.null, .null, .null, .int 0]))]) := hD.sub [11] (by decide) rfl
  have hFc := va_free (wc := ([(q3, .inr (7, [.null, .null, .null, .int 0]))])) hD hS hA [11] rfl
  refine q_iv (va_runIN (As := []) (rest := [.ref q3, .ref h0]) ⟨hx, hb, hml, hown, hts⟩ (kX7_init l D cI cZ cO q3 H.size) ⟨va_cnB 0 hts gX1_init_X7_init_n18 rfl rfl rfl hE.2.2.2.2.2.2.2.2.1 hw11 (by decide +kernel) ⟨Nat.le_of_ble_eq_true rfl, Nat.le_of_ble_eq_true rfl⟩, rfl, hw12⟩ (q_mS hE hPc hDc) rfl rfl hl.1 rfl (lv_room (Nat.le_of_ble_eq_true rfl)) dX1_init_20 ⟨Nat.le_of_ble_eq_true rfl, Nat.le_of_ble_eq_true rfl⟩) hS hFc hFc (fun t H locs e1 hB hk hS1 => ?_)
  obtain ⟨d4, rfl, hP1, hD1⟩ := hB
  rw [e1] at hP1
  obtain ⟨hP2, hD2⟩ := va_join (wr := ([(h0, .inr (1, [.ref (d2 0), .null, .int 0]))] ++ (wg5 cI cZ d2 sX5))) (w1 := (wg7 cI cZ d4 sX7)) hP hD [11] [0, 1, 2, 3, 4, 5, 6, 7, 8, 9, 10] rfl rfl (by decide) (by decide) hk hFc hP1 hD1
  clear hP1 hD1 hPc hDc
  have hP1 := hP2
  have hD1 := hD2
  clear hP2 hD2
  replace hP : va_P D vwCl ([(h0, .inr (1, [.ref (d2 0), .null, .int 0]))] ++ (wg5 cI cZ d2 sX5 ++ (wg7 cI cZ d4 sX7))) H := hP1
  replace hD : va_D A ([(h0, .inr (1, [.ref (d2 0), .null, .int 0]))] ++ (wg5 cI cZ d2 sX5 ++ (wg7 cI cZ d4 sX7))) := hD1
  replace hS := hS1
  clear hP1 hD1 hS1
  refine W.widen (k := 14) (n := 95) (Nat.le_of_ble_eq_true rfl) (Nat.le_of_ble_eq_true rfl) ?_
  refine va_putF (D := D) (ci := 1) (v := .ref (d4 0)) (ty := .object "HailNames$Sights") (C := RX1) (T := TX1) (N := 3) hx hb hts hi1 tyX1 tyX1_ok nmX1 hown hE.1 hP hD hS 0 rfl rfl 1 (by decide) hw13 (fun _ h9 => h9) rfl hin rfl (by decide +kernel) rfl rfl (Nat.le_of_ble_eq_true rfl) dX1_init_23 (fun H locs hP1 hD1 hS1 => ?_)
  replace hP : va_P D vwCl ([(h0, .inr (1, [.ref (d2 0), .ref (d4 0), .int 0]))] ++ (wg5 cI cZ d2 sX5 ++ (wg7 cI cZ d4 sX7))) H := hP1
  replace hD : va_D A ([(h0, .inr (1, [.ref (d2 0), .ref (d4 0), .int 0]))] ++ (wg5 cI cZ d2 sX5 ++ (wg7 cI cZ d4 sX7))) := hD1
  replace hS := hS1
  clear hP1 hD1 hS1
  refine lv_aload_n hx hb dX1_init_26 rfl (lv_at hl 0 rfl) ?_
  refine lv_iconst (v := 0) hx hb dX1_init_27 (by decide) ?_
  refine va_put (D := D) (ci := 1) (v := .int 0) (ty := .boolean) (C := RX1) (T := TX1) (N := 3) hx hb hts hi1 tyX1 tyX1_ok nmX1 hown hE.1 hP hD hS 0 rfl rfl 2 (by decide) hw14 (fun _ h9 => h9) rfl (by decide +kernel) (by decide +kernel) (by decide +kernel) (Nat.le_of_ble_eq_true rfl) dX1_init_28 (fun H locs hP1 hD1 hS1 => ?_)
  replace hP : va_P D vwCl ([(h0, .inr (1, [.ref (d2 0), .ref (d4 0), .int 0]))] ++ (wg5 cI cZ d2 sX5 ++ (wg7 cI cZ d4 sX7))) H := hP1
  replace hD : va_D A ([(h0, .inr (1, [.ref (d2 0), .ref (d4 0), .int 0]))] ++ (wg5 cI cZ d2 sX5 ++ (wg7 cI cZ d4 sX7))) := hD1
  replace hS := hS1
  clear hP1 hD1 hS1
  have hP9 : va_P D vwCl (wg1 (fun _ => h0) d2 d4 sX1 ++ (wg5 cI cZ d2 sX5 ++ wg7 cI cZ d4 sX7)) H := hP
  have hD9 : va_D A (wg1 (fun _ => h0) d2 d4 sX1 ++ (wg5 cI cZ d2 sX5 ++ wg7 cI cZ d4 sX7)) := hD
  exact W.vret hx hb hr (fun t e1 hW => ⟨⟨(), rfl, trivial, (fun _ => h0), d2, d4, rfl, by rw [e1]; exact hP9, hAe ▸ hD9⟩, hAe ▸ hS.F e1⟩) (hAe ▸ hS.2.2) dX1_init_31
