def hn_W (cI cZ cO : ClassId) (dd : Nat → Nat → Nat) : va_W := wg5 cI cZ (dd 0) sX5 ++ (wg4 cI cZ (dd 1) sX4 ++ (wg3 (dd 2) (dd 3) (dd 4) sX3 ++ (wg5 cI cZ (dd 3) sX5 ++ (wg0 cI cZ (dd 4) sX0 ++ (wg6 cI cZ (dd 5) sX6 ++ (wg7 cI cZ (dd 6) sX7 ++ (wg2 cI cZ (dd 7) sX2 ++ (wg1 (dd 8) (dd 9) (dd 10) sX1 ++ (wg5 cI cZ (dd 9) sX5 ++ (wg7 cI cZ (dd 10) sX7 ++ (wg1 (dd 11) (dd 12) (dd 13) sX1 ++ (wg5 cI cZ (dd 12) sX5 ++ (wg7 cI cZ (dd 13) sX7 ++ (wg8 dd ++ (wgi cO dd)))))))))))))))
abbrev rmX8_init : Room := { frames := 3, cells := 65, slots := 2590, locals := 53 }
set_option maxHeartbeats 8000000 in
set_option maxRecDepth 100000 in
theorem kX8_init (l : Launch) (D : va_G) (cI cZ cO : ClassId) (h0 sz : Nat) : Met l yX8_init wsX8_init rmX8_init (q_PM D cI cZ cO [.ref h0] sz ([(h0, .inr (8, [.null, .null, .null, .null, .null, .null, .null]))] : va_W)) (va_Qv (fun _ : Unit => True) (fun _ t => ∃ dd : Nat → Nat → Nat, dd 14 0 = h0 ∧ va_P D vwCl (hn_W cI cZ cO dd) t.heap ∧ va_D (va_A ([(h0, .inr (8, [.null, .null, .null, .null, .null, .null, .null]))] : va_W) sz) (hn_W cI cZ cO dd)) (va_A ([(h0, .inr (8, [.null, .null, .null, .null, .null, .null, .null]))] : va_W) sz)) 65 2590 (va_A ([(h0, .inr (8, [.null, .null, .null, .null, .null, .null, .null]))] : va_W) sz) := by
  refine Met.ofW (cc := cX8_init) (maxL := 2) (ret := none) (by decide) rfl ?_
  intro p e s m args below meth c s₁ B hml hv
  obtain ⟨rfl, hsz, hE, hP, hD0⟩ := hv
  have hx := B.exec
  have hb := B.bytes
  have hr := B.returns
  have hts := atoms_spec (ws := wsX8_init) B.pre
  have hown : s.vm.findClass RX8 = some m.cls := findClass_of_methodNamed B.named
  have hlocks := B.notSynchronized
  have hin : meth.name = "<init>" := (name_of_methodNamed B.named B.method).1
  have hi5 : ∀ w ∈ u_ws RX5 TX5 11, w ∈ wsX8_init := by decide +kernel
  have hi8 : ∀ w ∈ u_ws RX8 TX8 7, w ∈ wsX8_init := by decide +kernel
  have hi4 : ∀ w ∈ u_ws RX4 TX4 2, w ∈ wsX8_init := by decide +kernel
  have hi3 : ∀ w ∈ u_ws RX3 TX3 8, w ∈ wsX8_init := by decide +kernel
  have hi6 : ∀ w ∈ u_ws RX6 TX6 1, w ∈ wsX8_init := by decide +kernel
  have hi7 : ∀ w ∈ u_ws RX7 TX7 4, w ∈ wsX8_init := by decide +kernel
  have hi2 : ∀ w ∈ u_ws RX2 TX2 6, w ∈ wsX8_init := by decide +kernel
  have hi1 : ∀ w ∈ u_ws RX1 TX1 3, w ∈ wsX8_init := by decide +kernel
  have hw0 := hts (.methodLink RX8 1 objectInit) (by decide +kernel)
  have hw1 := hts (.instanceMethod objectInit) (by decide +kernel)
  have hw2 := hts (.code objectInit ⟨#[0xb1]⟩ 1 none) (by decide +kernel)
  have hw3 := hts (.classLink RX8 7 RX5) (by decide +kernel)
  have hw4 := hts (.instantiable RX5 11) (by decide +kernel)
  have hw5 := hts (.initialized RX5) (by decide +kernel)
  have hw6 := hts (.methodLink RX8 9 yX5_init) (by decide +kernel)
  have hw7 := hts (.instanceMethod yX5_init) (by decide +kernel)
  have hw8 := hts (.fieldLink RX8 10 "HailNames" "now" "LHailNames$Plain;") (by decide +kernel)
  have hw9 := hts (.classLink RX8 16 RX4) (by decide +kernel)
  have hw10 := hts (.instantiable RX4 2) (by decide +kernel)
  have hw11 := hts (.initialized RX4) (by decide +kernel)
  have hw12 := hts (.instanceMethod yX4_init) (by decide +kernel)
  have hw13 := hts (.fieldLink RX8 19 "HailNames" "pad" "LHailNames$Pad;") (by decide +kernel)
  have hw14 := hts (.classLink RX8 23 RX3) (by decide +kernel)
  have hw15 := hts (.instantiable RX3 8) (by decide +kernel)
  have hw16 := hts (.initialized RX3) (by decide +kernel)
  have hw17 := hts (.instanceMethod yX3_init) (by decide +kernel)
  have hw18 := hts (.fieldLink RX8 26 "HailNames" "outcome" "LHailNames$Outcome;") (by decide +kernel)
  have hw19 := hts (.classLink RX8 30 RX6) (by decide +kernel)
  have hw20 := hts (.instantiable RX6 1) (by decide +kernel)
  have hw21 := hts (.initialized RX6) (by decide +kernel)
  have hw22 := hts (.instanceMethod yX6_init) (by decide +kernel)
  have hw23 := hts (.fieldLink RX8 33 "HailNames" "planner" "LHailNames$Planner;") (by decide +kernel)
  have hw24 := hts (.classLink RX8 37 RX7) (by decide +kernel)
  have hw25 := hts (.instantiable RX7 4) (by decide +kernel)
  have hw26 := hts (.initialized RX7) (by decide +kernel)
  have hw27 := hts (.instanceMethod yX7_init) (by decide +kernel)
  have hw28 := hts (.fieldLink RX8 40 "HailNames" "sights" "LHailNames$Sights;") (by decide +kernel)
  have hw29 := hts (.classLink RX8 44 RX2) (by decide +kernel)
  have hw30 := hts (.instantiable RX2 6) (by decide +kernel)
  have hw31 := hts (.initialized RX2) (by decide +kernel)
  have hw32 := hts (.instanceMethod yX2_init) (by decide +kernel)
  have hw33 := hts (.fieldLink RX8 47 "HailNames" "finder" "LHailNames$NetFinder;") (by decide +kernel)
  have hw34 := hts (.classLink RX8 51 RX1) (by decide +kernel)
  have hw35 := hts (.fieldLink RX8 53 "HailNames" "images" "[LHailNames$Image;") (by decide +kernel)
  have hw36 := hts (.instantiable RX1 3) (by decide +kernel)
  have hw37 := hts (.initialized RX1) (by decide +kernel)
  have hw38 := hts (.instanceMethod yX1_init) (by decide +kernel)
  subst hsz
  have hD := hD0.self (sz := s.heap.size)
  generalize hAe : va_A ([(h0, .inr (8, [.null, .null, .null, .null, .null, .null, .null]))] : va_W) s.heap.size = A at hD
  have hA : ∀ q : Nat, s.heap.size ≤ q → A q := fun q h => by rw [← hAe]; exact Or.inr h
  have hS : va_S A s.heap s.heap [] := va_S.rf
  have hl := lv_entry ([.ref h0]) (n := 2) (Nat.le_of_ble_eq_true rfl)
  rw [lg_entry_eq]
  generalize (lg_sl ([.ref h0]) ++ List.replicate (2 - (lg_sl ([.ref h0])).length) Slot.unset).toArray = ls at hl ⊢
  have hl : lv_has ls 2 [(0, .ref h0)] := hl
  obtain ⟨H, hH⟩ : ∃ H, H = s.heap := ⟨_, rfl⟩
  rw [← hH] at hP
  have hS : va_S A s.heap H [] := by rw [hH]; exact hS
  rw [show W p l e (headSpec wsX8_init rmX8_init).room s m ([.ref h0] : List Value).toArray below meth c s.heap = W p l e (headSpec wsX8_init rmX8_init).room s m ([.ref h0] : List Value).toArray below meth c H by rw [hH]]
  refine lv_aload_n hx hb dX8_init_0 rfl (lv_at hl 0 rfl) ?_
  refine W.objInit hx hb hown hw0 hw1 hw2 rfl (by rw [hml]; exact hl.1) rfl dX8_init_1 (Nat.le_of_ble_eq_true rfl) (Nat.le_of_ble_eq_true rfl) ?_
  refine W.eq (g2 := F0 m 4 ls []) rfl ?_
  refine lv_aload_n hx hb dX8_init_4 rfl (lv_at hl 0 rfl) ?_
  refine va_new (ci := 5) (fs := [.null, .null, .null, .null, .null, .null, .null, .null, .null, .int 0, .int 0]) (C := RX5) (T := TX5) (N := 11) hx hb hts hi5 tyX5 tyX5_ok hown hw3 hw4 hw5 hE.1 hP hD hS hA rfl (fun j hj => by rcases (show j = 0 ∨ j = 1 ∨ j = 2 ∨ j = 3 ∨ j = 4 ∨ j = 5 ∨ j = 6 ∨ j = 7 ∨ j = 8 ∨ j = 9 ∨ j = 10 by omega) with rfl | rfl | rfl | rfl | rfl | rfl | rfl | rfl | rfl | rfl | rfl <;> rfl) (Nat.le_of_ble_eq_true rfl) (Nat.le_of_ble_eq_true rfl) dX8_init_5 (fun q1 H hP1 hD1 hS1 => ?_)
  replace hP : va_P D vwCl ([(h0, .inr (8, [.null, .null, .null, .null, .null, .null, .null])), (q1, .inr (5, [.null, .null, .null, .null, .null, .null, .null, .null, .null, .int 0, .int 0]))]) H := hP1
  replace hD : va_D A ([(h0, .inr (8, [.null, .null, .null, .null, .null, .null, .null])), (q1, .inr (5, [.null, .null, .null, .null, .null, .null, .null, .null, .null, .int 0, .int 0]))]) := hD1
  replace hS := hS1
  clear hP1 hD1 hS1
  refine W.widen (k := 1) (n := 11) (Nat.le_of_ble_eq_true rfl) (Nat.le_of_ble_eq_true rfl) ?_
  refine lv_dup hx hb dX8_init_8 rfl ?_
  have hPc : va_P D vwCl ([(q1, .inr (5, [.null, .null, .null, .null, .null, .null, .null, .null, .null, .int 0, .int 0]))]) H := hP.sub [1] rfl
  have hDc : va_D A ([(q1, .inr (5, [.null, .null, .null, .null, .null, .null, .null, .null, .null, .int 0, .int 0]))]) := hD.sub [1] (by decide) rfl
  have hFc := va_free (wc := ([(q1, .inr (5, [.null, .null, .null, .null, .null, .null, .null, .null, .null, .int 0, .int 0]))])) hD hS hA [1] rfl
  refine q_iv (va_runI (As := []) (rest := [.ref q1, .ref h0]) ⟨hx, hb, hml, hown, hts⟩ (kX5_init l D cI cZ cO q1 H.size) (cwI 0 hts gX8_init_X5_init rfl rfl rfl hw5 hw6 hw7 rfl (by decide +kernel) ⟨Nat.le_of_ble_eq_true rfl, Nat.le_of_ble_eq_true rfl⟩) (q_mS hE hPc hDc) rfl rfl hl.1 rfl (lv_room (Nat.le_of_ble_eq_true rfl)) dX8_init_9 ⟨Nat.le_of_ble_eq_true rfl, Nat.le_of_ble_eq_true rfl⟩) hS hFc hFc (fun t H locs e1 hB hk hS1 => ?_)
  obtain ⟨d2, rfl, hP1, hD1⟩ := hB
  rw [e1] at hP1
  obtain ⟨hP2, hD2⟩ := va_join (wr := ([(h0, .inr (8, [.null, .null, .null, .null, .null, .null, .null]))])) (w1 := (wg5 cI cZ d2 sX5)) hP hD [1] [0] rfl rfl (by decide) (by decide) hk hFc hP1 hD1
  clear hP1 hD1 hPc hDc
  have hP1 := hP2
  have hD1 := hD2
  clear hP2 hD2
  replace hP : va_P D vwCl ([(h0, .inr (8, [.null, .null, .null, .null, .null, .null, .null]))] ++ (wg5 cI cZ d2 sX5)) H := hP1
  replace hD : va_D A ([(h0, .inr (8, [.null, .null, .null, .null, .null, .null, .null]))] ++ (wg5 cI cZ d2 sX5)) := hD1
  replace hS := hS1
  clear hP1 hD1 hS1
  refine W.widen (k := 10) (n := 67) (Nat.le_of_ble_eq_true rfl) (Nat.le_of_ble_eq_true rfl) ?_
  refine va_putF (D := D) (ci := 8) (v := .ref (d2 0)) (ty := .object "HailNames$Plain") (C := RX8) (T := TX8) (N := 7) hx hb hts hi8 tyX8 tyX8_ok nmX8 hown hE.1 hP hD hS 0 rfl rfl 0 (by decide) hw8 (fun _ h9 => h9) rfl hin rfl (by decide +kernel) rfl rfl (Nat.le_of_ble_eq_true rfl) dX8_init_12 (fun H locs hP1 hD1 hS1 => ?_)
  replace hP : va_P D vwCl ([(h0, .inr (8, [.ref (d2 0), .null, .null, .null, .null, .null, .null]))] ++ (wg5 cI cZ d2 sX5)) H := hP1
  replace hD : va_D A ([(h0, .inr (8, [.ref (d2 0), .null, .null, .null, .null, .null, .null]))] ++ (wg5 cI cZ d2 sX5)) := hD1
  replace hS := hS1
  clear hP1 hD1 hS1
  refine lv_aload_n hx hb dX8_init_15 rfl (lv_at hl 0 rfl) ?_
  refine va_new (ci := 4) (fs := [.null, .int 0]) (C := RX4) (T := TX4) (N := 2) hx hb hts hi4 tyX4 tyX4_ok hown hw9 hw10 hw11 hE.1 hP hD hS hA rfl (fun j hj => by rcases (show j = 0 ∨ j = 1 by omega) with rfl | rfl <;> rfl) (Nat.le_of_ble_eq_true rfl) (Nat.le_of_ble_eq_true rfl) dX8_init_16 (fun q3 H hP1 hD1 hS1 => ?_)
  replace hP : va_P D vwCl ([(h0, .inr (8, [.ref (d2 0), .null, .null, .null, .null, .null, .null]))] ++ (wg5 cI cZ d2 sX5 ++ ([(q3, .inr (4, [.null, .int 0]))]))) H := hP1
  replace hD : va_D A ([(h0, .inr (8, [.ref (d2 0), .null, .null, .null, .null, .null, .null]))] ++ (wg5 cI cZ d2 sX5 ++ ([(q3, .inr (4, [.null, .int 0]))]))) := hD1
  replace hS := hS1
  clear hP1 hD1 hS1
  refine W.widen (k := 11) (n := 69) (Nat.le_of_ble_eq_true rfl) (Nat.le_of_ble_eq_true rfl) ?_
  refine lv_dup hx hb dX8_init_19 rfl ?_
  have hPc : va_P D vwCl ([(q3, .inr (4, [.null, .int 0]))]) H := hP.sub [11] rfl
  have hDc : va_D A ([(q3, .inr (4, [.null, .int 0]))]) := hD.sub [11] (by decide) rfl
  have hFc := va_free (wc := ([(q3, .inr (4, [.null, .int 0]))])) hD hS hA [11] rfl
  refine q_iv (va_runIN (As := []) (rest := [.ref q3, .ref h0]) ⟨hx, hb, hml, hown, hts⟩ (kX4_init l D cI cZ cO q3 H.size) ⟨va_cnB 0 hts gX8_init_X4_init_n18 rfl rfl rfl hE.2.1 hw11 (by decide +kernel) ⟨Nat.le_of_ble_eq_true rfl, Nat.le_of_ble_eq_true rfl⟩, rfl, hw12⟩ (q_mS hE hPc hDc) rfl rfl hl.1 rfl (lv_room (Nat.le_of_ble_eq_true rfl)) dX8_init_20 ⟨Nat.le_of_ble_eq_true rfl, Nat.le_of_ble_eq_true rfl⟩) hS hFc hFc (fun t H locs e1 hB hk hS1 => ?_)
  obtain ⟨d4, rfl, hP1, hD1⟩ := hB
  rw [e1] at hP1
  obtain ⟨hP2, hD2⟩ := va_join (wr := ([(h0, .inr (8, [.ref (d2 0), .null, .null, .null, .null, .null, .null]))] ++ (wg5 cI cZ d2 sX5))) (w1 := (wg4 cI cZ d4 sX4)) hP hD [11] [0, 1, 2, 3, 4, 5, 6, 7, 8, 9, 10] rfl rfl (by decide) (by decide) hk hFc hP1 hD1
  clear hP1 hD1 hPc hDc
  have hP1 := hP2
  have hD1 := hD2
  clear hP2 hD2
  replace hP : va_P D vwCl ([(h0, .inr (8, [.ref (d2 0), .null, .null, .null, .null, .null, .null]))] ++ (wg5 cI cZ d2 sX5 ++ (wg4 cI cZ d4 sX4))) H := hP1
  replace hD : va_D A ([(h0, .inr (8, [.ref (d2 0), .null, .null, .null, .null, .null, .null]))] ++ (wg5 cI cZ d2 sX5 ++ (wg4 cI cZ d4 sX4))) := hD1
  replace hS := hS1
  clear hP1 hD1 hS1
  refine W.widen (k := 12) (n := 129) (Nat.le_of_ble_eq_true rfl) (Nat.le_of_ble_eq_true rfl) ?_
  refine va_putF (D := D) (ci := 8) (v := .ref (d4 0)) (ty := .object "HailNames$Pad") (C := RX8) (T := TX8) (N := 7) hx hb hts hi8 tyX8 tyX8_ok nmX8 hown hE.1 hP hD hS 0 rfl rfl 1 (by decide) hw13 (fun _ h9 => h9) rfl hin rfl (by decide +kernel) rfl rfl (Nat.le_of_ble_eq_true rfl) dX8_init_23 (fun H locs hP1 hD1 hS1 => ?_)
  replace hP : va_P D vwCl ([(h0, .inr (8, [.ref (d2 0), .ref (d4 0), .null, .null, .null, .null, .null]))] ++ (wg5 cI cZ d2 sX5 ++ (wg4 cI cZ d4 sX4))) H := hP1
  replace hD : va_D A ([(h0, .inr (8, [.ref (d2 0), .ref (d4 0), .null, .null, .null, .null, .null]))] ++ (wg5 cI cZ d2 sX5 ++ (wg4 cI cZ d4 sX4))) := hD1
  replace hS := hS1
  clear hP1 hD1 hS1
  refine lv_aload_n hx hb dX8_init_26 rfl (lv_at hl 0 rfl) ?_
  refine va_new (ci := 3) (fs := [.null, .null, .int 0, .int 0, .int 0, .int 0, .int 0, .int 0]) (C := RX3) (T := TX3) (N := 8) hx hb hts hi3 tyX3 tyX3_ok hown hw14 hw15 hw16 hE.1 hP hD hS hA rfl (fun j hj => by rcases (show j = 0 ∨ j = 1 ∨ j = 2 ∨ j = 3 ∨ j = 4 ∨ j = 5 ∨ j = 6 ∨ j = 7 by omega) with rfl | rfl | rfl | rfl | rfl | rfl | rfl | rfl <;> rfl) (Nat.le_of_ble_eq_true rfl) (Nat.le_of_ble_eq_true rfl) dX8_init_27 (fun q5 H hP1 hD1 hS1 => ?_)
  replace hP : va_P D vwCl ([(h0, .inr (8, [.ref (d2 0), .ref (d4 0), .null, .null, .null, .null, .null]))] ++ (wg5 cI cZ d2 sX5 ++ (wg4 cI cZ d4 sX4 ++ ([(q5, .inr (3, [.null, .null, .int 0, .int 0, .int 0, .int 0, .int 0, .int 0]))])))) H := hP1
  replace hD : va_D A ([(h0, .inr (8, [.ref (d2 0), .ref (d4 0), .null, .null, .null, .null, .null]))] ++ (wg5 cI cZ d2 sX5 ++ (wg4 cI cZ d4 sX4 ++ ([(q5, .inr (3, [.null, .null, .int 0, .int 0, .int 0, .int 0, .int 0, .int 0]))])))) := hD1
  replace hS := hS1
  clear hP1 hD1 hS1
  refine W.widen (k := 13) (n := 137) (Nat.le_of_ble_eq_true rfl) (Nat.le_of_ble_eq_true rfl) ?_
  refine lv_dup hx hb dX8_init_30 rfl ?_
  have hPc : va_P D vwCl ([(q5, .inr (3, [.null, .null, .int 0, .int 0, .int 0, .int 0, .int 0, .int 0]))]) H := hP.sub [13] rfl
  have hDc : va_D A ([(q5, .inr (3, [.null, .null, .int 0, .int 0, .int 0, .int 0, .int 0, .int 0]))]) := hD.sub [13] (by decide) rfl
  have hFc := va_free (wc := ([(q5, .inr (3, [.null, .null, .int 0, .int 0, .int 0, .int 0, .int 0, .int 0]))])) hD hS hA [13] rfl
  refine q_iv (va_runIN (As := []) (rest := [.ref q5, .ref h0]) ⟨hx, hb, hml, hown, hts⟩ (kX3_init l D cI cZ cO q5 H.size) ⟨va_cnB 0 hts gX8_init_X3_init_n25 rfl rfl rfl hE.2.2.1 hw16 (by decide +kernel) ⟨Nat.le_of_ble_eq_true rfl, Nat.le_of_ble_eq_true rfl⟩, rfl, hw17⟩ (q_mS hE hPc hDc) rfl rfl hl.1 rfl (lv_room (Nat.le_of_ble_eq_true rfl)) dX8_init_31 ⟨Nat.le_of_ble_eq_true rfl, Nat.le_of_ble_eq_true rfl⟩) hS hFc hFc (fun t H locs e1 hB hk hS1 => ?_)
  obtain ⟨d6, d6a, d6b, rfl, hP1, hD1⟩ := hB
  rw [e1] at hP1
  obtain ⟨hP2, hD2⟩ := va_join (wr := ([(h0, .inr (8, [.ref (d2 0), .ref (d4 0), .null, .null, .null, .null, .null]))] ++ (wg5 cI cZ d2 sX5 ++ (wg4 cI cZ d4 sX4)))) (w1 := (wg3 d6 d6a d6b sX3 ++ (wg5 cI cZ d6a sX5 ++ wg0 cI cZ d6b sX0))) hP hD [13] [0, 1, 2, 3, 4, 5, 6, 7, 8, 9, 10, 11, 12] rfl rfl (by decide) (by decide) hk hFc hP1 hD1
  clear hP1 hD1 hPc hDc
  have hP1 := hP2
  have hD1 := hD2
  clear hP2 hD2
  replace hP : va_P D vwCl ([(h0, .inr (8, [.ref (d2 0), .ref (d4 0), .null, .null, .null, .null, .null]))] ++ (wg5 cI cZ d2 sX5 ++ (wg4 cI cZ d4 sX4 ++ (wg3 d6 d6a d6b sX3 ++ (wg5 cI cZ d6a sX5 ++ wg0 cI cZ d6b sX0))))) H := hP1
  replace hD : va_D A ([(h0, .inr (8, [.ref (d2 0), .ref (d4 0), .null, .null, .null, .null, .null]))] ++ (wg5 cI cZ d2 sX5 ++ (wg4 cI cZ d4 sX4 ++ (wg3 d6 d6a d6b sX3 ++ (wg5 cI cZ d6a sX5 ++ wg0 cI cZ d6b sX0))))) := hD1
  replace hS := hS1
  clear hP1 hD1 hS1
  refine W.widen (k := 24) (n := 207) (Nat.le_of_ble_eq_true rfl) (Nat.le_of_ble_eq_true rfl) ?_
  refine va_putF (D := D) (ci := 8) (v := .ref (d6 0)) (ty := .object "HailNames$Outcome") (C := RX8) (T := TX8) (N := 7) hx hb hts hi8 tyX8 tyX8_ok nmX8 hown hE.1 hP hD hS 0 rfl rfl 2 (by decide) hw18 (fun _ h9 => h9) rfl hin rfl (by decide +kernel) rfl rfl (Nat.le_of_ble_eq_true rfl) dX8_init_34 (fun H locs hP1 hD1 hS1 => ?_)
  replace hP : va_P D vwCl ([(h0, .inr (8, [.ref (d2 0), .ref (d4 0), .ref (d6 0), .null, .null, .null, .null]))] ++ (wg5 cI cZ d2 sX5 ++ (wg4 cI cZ d4 sX4 ++ (wg3 d6 d6a d6b sX3 ++ (wg5 cI cZ d6a sX5 ++ wg0 cI cZ d6b sX0))))) H := hP1
  replace hD : va_D A ([(h0, .inr (8, [.ref (d2 0), .ref (d4 0), .ref (d6 0), .null, .null, .null, .null]))] ++ (wg5 cI cZ d2 sX5 ++ (wg4 cI cZ d4 sX4 ++ (wg3 d6 d6a d6b sX3 ++ (wg5 cI cZ d6a sX5 ++ wg0 cI cZ d6b sX0))))) := hD1
  replace hS := hS1
  clear hP1 hD1 hS1
  refine lv_aload_n hx hb dX8_init_37 rfl (lv_at hl 0 rfl) ?_
  refine va_new (ci := 6) (fs := [.null]) (C := RX6) (T := TX6) (N := 1) hx hb hts hi6 tyX6 tyX6_ok hown hw19 hw20 hw21 hE.1 hP hD hS hA rfl (fun j hj => by rcases (show j = 0 by omega) with rfl <;> rfl) (Nat.le_of_ble_eq_true rfl) (Nat.le_of_ble_eq_true rfl) dX8_init_38 (fun q7 H hP1 hD1 hS1 => ?_)
  replace hP : va_P D vwCl ([(h0, .inr (8, [.ref (d2 0), .ref (d4 0), .ref (d6 0), .null, .null, .null, .null]))] ++ (wg5 cI cZ d2 sX5 ++ (wg4 cI cZ d4 sX4 ++ (wg3 d6 d6a d6b sX3 ++ (wg5 cI cZ d6a sX5 ++ wg0 cI cZ d6b sX0) ++ ([(q7, .inr (6, [.null]))]))))) H := hP1
  replace hD : va_D A ([(h0, .inr (8, [.ref (d2 0), .ref (d4 0), .ref (d6 0), .null, .null, .null, .null]))] ++ (wg5 cI cZ d2 sX5 ++ (wg4 cI cZ d4 sX4 ++ (wg3 d6 d6a d6b sX3 ++ (wg5 cI cZ d6a sX5 ++ wg0 cI cZ d6b sX0) ++ ([(q7, .inr (6, [.null]))]))))) := hD1
  replace hS := hS1
  clear hP1 hD1 hS1
  refine W.widen (k := 25) (n := 208) (Nat.le_of_ble_eq_true rfl) (Nat.le_of_ble_eq_true rfl) ?_
  refine lv_dup hx hb dX8_init_41 rfl ?_
  have hPc : va_P D vwCl ([(q7, .inr (6, [.null]))]) H := hP.sub [25] rfl
  have hDc : va_D A ([(q7, .inr (6, [.null]))]) := hD.sub [25] (by decide) rfl
  have hFc := va_free (wc := ([(q7, .inr (6, [.null]))])) hD hS hA [25] rfl
  refine q_iv (va_runIN (As := []) (rest := [.ref q7, .ref h0]) ⟨hx, hb, hml, hown, hts⟩ (kX6_init l D cI cZ cO q7 H.size) ⟨va_cnB 0 hts gX8_init_X6_init_n32 rfl rfl rfl hE.2.2.2.2.1 hw21 (by decide +kernel) ⟨Nat.le_of_ble_eq_true rfl, Nat.le_of_ble_eq_true rfl⟩, rfl, hw22⟩ (q_mS hE hPc hDc) rfl rfl hl.1 rfl (lv_room (Nat.le_of_ble_eq_true rfl)) dX8_init_42 ⟨Nat.le_of_ble_eq_true rfl, Nat.le_of_ble_eq_true rfl⟩) hS hFc hFc (fun t H locs e1 hB hk hS1 => ?_)
  obtain ⟨d8, rfl, hP1, hD1⟩ := hB
  rw [e1] at hP1
  obtain ⟨hP2, hD2⟩ := va_join (wr := ([(h0, .inr (8, [.ref (d2 0), .ref (d4 0), .ref (d6 0), .null, .null, .null, .null]))] ++ (wg5 cI cZ d2 sX5 ++ (wg4 cI cZ d4 sX4 ++ (wg3 d6 d6a d6b sX3 ++ (wg5 cI cZ d6a sX5 ++ wg0 cI cZ d6b sX0)))))) (w1 := (wg6 cI cZ d8 sX6)) hP hD [25] [0, 1, 2, 3, 4, 5, 6, 7, 8, 9, 10, 11, 12, 13, 14, 15, 16, 17, 18, 19, 20, 21, 22, 23, 24] rfl rfl (by decide) (by decide) hk hFc hP1 hD1
  clear hP1 hD1 hPc hDc
  have hP1 := hP2
  have hD1 := hD2
  clear hP2 hD2
  replace hP : va_P D vwCl ([(h0, .inr (8, [.ref (d2 0), .ref (d4 0), .ref (d6 0), .null, .null, .null, .null]))] ++ (wg5 cI cZ d2 sX5 ++ (wg4 cI cZ d4 sX4 ++ (wg3 d6 d6a d6b sX3 ++ (wg5 cI cZ d6a sX5 ++ wg0 cI cZ d6b sX0) ++ (wg6 cI cZ d8 sX6))))) H := hP1
  replace hD : va_D A ([(h0, .inr (8, [.ref (d2 0), .ref (d4 0), .ref (d6 0), .null, .null, .null, .null]))] ++ (wg5 cI cZ d2 sX5 ++ (wg4 cI cZ d4 sX4 ++ (wg3 d6 d6a d6b sX3 ++ (wg5 cI cZ d6a sX5 ++ wg0 cI cZ d6b sX0) ++ (wg6 cI cZ d8 sX6))))) := hD1
  replace hS := hS1
  clear hP1 hD1 hS1
  refine W.widen (k := 26) (n := 2256) (Nat.le_of_ble_eq_true rfl) (Nat.le_of_ble_eq_true rfl) ?_
  refine va_putF (D := D) (ci := 8) (v := .ref (d8 0)) (ty := .object "HailNames$Planner") (C := RX8) (T := TX8) (N := 7) hx hb hts hi8 tyX8 tyX8_ok nmX8 hown hE.1 hP hD hS 0 rfl rfl 3 (by decide) hw23 (fun _ h9 => h9) rfl hin rfl (by decide +kernel) rfl rfl (Nat.le_of_ble_eq_true rfl) dX8_init_45 (fun H locs hP1 hD1 hS1 => ?_)
  replace hP : va_P D vwCl ([(h0, .inr (8, [.ref (d2 0), .ref (d4 0), .ref (d6 0), .ref (d8 0), .null, .null, .null]))] ++ (wg5 cI cZ d2 sX5 ++ (wg4 cI cZ d4 sX4 ++ (wg3 d6 d6a d6b sX3 ++ (wg5 cI cZ d6a sX5 ++ wg0 cI cZ d6b sX0) ++ (wg6 cI cZ d8 sX6))))) H := hP1
  replace hD : va_D A ([(h0, .inr (8, [.ref (d2 0), .ref (d4 0), .ref (d6 0), .ref (d8 0), .null, .null, .null]))] ++ (wg5 cI cZ d2 sX5 ++ (wg4 cI cZ d4 sX4 ++ (wg3 d6 d6a d6b sX3 ++ (wg5 cI cZ d6a sX5 ++ wg0 cI cZ d6b sX0) ++ (wg6 cI cZ d8 sX6))))) := hD1
  replace hS := hS1
  clear hP1 hD1 hS1
  refine lv_aload_n hx hb dX8_init_48 rfl (lv_at hl 0 rfl) ?_
  refine va_new (ci := 7) (fs := [.null, .null, .null, .int 0]) (C := RX7) (T := TX7) (N := 4) hx hb hts hi7 tyX7 tyX7_ok hown hw24 hw25 hw26 hE.1 hP hD hS hA rfl (fun j hj => by rcases (show j = 0 ∨ j = 1 ∨ j = 2 ∨ j = 3 by omega) with rfl | rfl | rfl | rfl <;> rfl) (Nat.le_of_ble_eq_true rfl) (Nat.le_of_ble_eq_true rfl) dX8_init_49 (fun q9 H hP1 hD1 hS1 => ?_)
  replace hP : va_P D vwCl ([(h0, .inr (8, [.ref (d2 0), .ref (d4 0), .ref (d6 0), .ref (d8 0), .null, .null, .null]))] ++ (wg5 cI cZ d2 sX5 ++ (wg4 cI cZ d4 sX4 ++ (wg3 d6 d6a d6b sX3 ++ (wg5 cI cZ d6a sX5 ++ wg0 cI cZ d6b sX0) ++ (wg6 cI cZ d8 sX6 ++ ([(q9, .inr (7, [.null, .null, .null, .int 0]))])))))) H := hP1
  replace hD : va_D A ([(h0, .inr (8, [.ref (d2 0), .ref (d4 0), .ref (d6 0), .ref (d8 0), .null, .null, .null]))] ++ (wg5 cI cZ d2 sX5 ++ (wg4 cI cZ d4 sX4 ++ (wg3 d6 d6a d6b sX3 ++ (wg5 cI cZ d6a sX5 ++ wg0 cI cZ d6b sX0) ++ (wg6 cI cZ d8 sX6 ++ ([(q9, .inr (7, [.null, .null, .null, .int 0]))])))))) := hD1
  replace hS := hS1
  clear hP1 hD1 hS1
  refine W.widen (k := 27) (n := 2260) (Nat.le_of_ble_eq_true rfl) (Nat.le_of_ble_eq_true rfl) ?_
  refine lv_dup hx hb dX8_init_52 rfl ?_
  have hPc : va_P D vwCl ([(q9, .inr (7, [.null, .null, .null, .int 0]))]) H := hP.sub [27] rfl
  have hDc : va_D A ([(q9, .inr (7, [.null, .null, .null, .int 0]))]) := hD.sub [27] (by decide) rfl
  have hFc := va_free (wc := ([(q9, .inr (7, [.null, .null, .null, .int 0]))])) hD hS hA [27] rfl
  refine q_iv (va_runIN (As := []) (rest := [.ref q9, .ref h0]) ⟨hx, hb, hml, hown, hts⟩ (kX7_init l D cI cZ cO q9 H.size) ⟨va_cnB 0 hts gX8_init_X7_init_n39 rfl rfl rfl hE.2.2.2.2.2.1 hw26 (by decide +kernel) ⟨Nat.le_of_ble_eq_true rfl, Nat.le_of_ble_eq_true rfl⟩, rfl, hw27⟩ (q_mS hE hPc hDc) rfl rfl hl.1 rfl (lv_room (Nat.le_of_ble_eq_true rfl)) dX8_init_53 ⟨Nat.le_of_ble_eq_true rfl, Nat.le_of_ble_eq_true rfl⟩) hS hFc hFc (fun t H locs e1 hB hk hS1 => ?_)
  obtain ⟨d10, rfl, hP1, hD1⟩ := hB
  rw [e1] at hP1
  obtain ⟨hP2, hD2⟩ := va_join (wr := ([(h0, .inr (8, [.ref (d2 0), .ref (d4 0), .ref (d6 0), .ref (d8 0), .null, .null, .null]))] ++ (wg5 cI cZ d2 sX5 ++ (wg4 cI cZ d4 sX4 ++ (wg3 d6 d6a d6b sX3 ++ (wg5 cI cZ d6a sX5 ++ wg0 cI cZ d6b sX0) ++ (wg6 cI cZ d8 sX6)))))) (w1 := (wg7 cI cZ d10 sX7)) hP hD [27] [0, 1, 2, 3, 4, 5, 6, 7, 8, 9, 10, 11, 12, 13, 14, 15, 16, 17, 18, 19, 20, 21, 22, 23, 24, 25, 26] rfl rfl (by decide) (by decide) hk hFc hP1 hD1
  clear hP1 hD1 hPc hDc
  have hP1 := hP2
  have hD1 := hD2
  clear hP2 hD2
  replace hP : va_P D vwCl ([(h0, .inr (8, [.ref (d2 0), .ref (d4 0), .ref (d6 0), .ref (d8 0), .null, .null, .null]))] ++ (wg5 cI cZ d2 sX5 ++ (wg4 cI cZ d4 sX4 ++ (wg3 d6 d6a d6b sX3 ++ (wg5 cI cZ d6a sX5 ++ wg0 cI cZ d6b sX0) ++ (wg6 cI cZ d8 sX6 ++ (wg7 cI cZ d10 sX7)))))) H := hP1
  replace hD : va_D A ([(h0, .inr (8, [.ref (d2 0), .ref (d4 0), .ref (d6 0), .ref (d8 0), .null, .null, .null]))] ++ (wg5 cI cZ d2 sX5 ++ (wg4 cI cZ d4 sX4 ++ (wg3 d6 d6a d6b sX3 ++ (wg5 cI cZ d6a sX5 ++ wg0 cI cZ d6b sX0) ++ (wg6 cI cZ d8 sX6 ++ (wg7 cI cZ d10 sX7)))))) := hD1
  replace hS := hS1
  clear hP1 hD1 hS1
  refine W.widen (k := 30) (n := 2284) (Nat.le_of_ble_eq_true rfl) (Nat.le_of_ble_eq_true rfl) ?_
  refine va_putF (D := D) (ci := 8) (v := .ref (d10 0)) (ty := .object "HailNames$Sights") (C := RX8) (T := TX8) (N := 7) hx hb hts hi8 tyX8 tyX8_ok nmX8 hown hE.1 hP hD hS 0 rfl rfl 4 (by decide) hw28 (fun _ h9 => h9) rfl hin rfl (by decide +kernel) rfl rfl (Nat.le_of_ble_eq_true rfl) dX8_init_56 (fun H locs hP1 hD1 hS1 => ?_)
  replace hP : va_P D vwCl ([(h0, .inr (8, [.ref (d2 0), .ref (d4 0), .ref (d6 0), .ref (d8 0), .ref (d10 0), .null, .null]))] ++ (wg5 cI cZ d2 sX5 ++ (wg4 cI cZ d4 sX4 ++ (wg3 d6 d6a d6b sX3 ++ (wg5 cI cZ d6a sX5 ++ wg0 cI cZ d6b sX0) ++ (wg6 cI cZ d8 sX6 ++ (wg7 cI cZ d10 sX7)))))) H := hP1
  replace hD : va_D A ([(h0, .inr (8, [.ref (d2 0), .ref (d4 0), .ref (d6 0), .ref (d8 0), .ref (d10 0), .null, .null]))] ++ (wg5 cI cZ d2 sX5 ++ (wg4 cI cZ d4 sX4 ++ (wg3 d6 d6a d6b sX3 ++ (wg5 cI cZ d6a sX5 ++ wg0 cI cZ d6b sX0) ++ (wg6 cI cZ d8 sX6 ++ (wg7 cI cZ d10 sX7)))))) := hD1
  replace hS := hS1
  clear hP1 hD1 hS1
  refine lv_aload_n hx hb dX8_init_59 rfl (lv_at hl 0 rfl) ?_
  refine va_new (ci := 2) (fs := [.null, .null, .null, .int 0, .int 0, .int 0]) (C := RX2) (T := TX2) (N := 6) hx hb hts hi2 tyX2 tyX2_ok hown hw29 hw30 hw31 hE.1 hP hD hS hA rfl (fun j hj => by rcases (show j = 0 ∨ j = 1 ∨ j = 2 ∨ j = 3 ∨ j = 4 ∨ j = 5 by omega) with rfl | rfl | rfl | rfl | rfl | rfl <;> rfl) (Nat.le_of_ble_eq_true rfl) (Nat.le_of_ble_eq_true rfl) dX8_init_60 (fun q11 H hP1 hD1 hS1 => ?_)
  replace hP : va_P D vwCl ([(h0, .inr (8, [.ref (d2 0), .ref (d4 0), .ref (d6 0), .ref (d8 0), .ref (d10 0), .null, .null]))] ++ (wg5 cI cZ d2 sX5 ++ (wg4 cI cZ d4 sX4 ++ (wg3 d6 d6a d6b sX3 ++ (wg5 cI cZ d6a sX5 ++ wg0 cI cZ d6b sX0) ++ (wg6 cI cZ d8 sX6 ++ (wg7 cI cZ d10 sX7 ++ ([(q11, .inr (2, [.null, .null, .null, .int 0, .int 0, .int 0]))]))))))) H := hP1
  replace hD : va_D A ([(h0, .inr (8, [.ref (d2 0), .ref (d4 0), .ref (d6 0), .ref (d8 0), .ref (d10 0), .null, .null]))] ++ (wg5 cI cZ d2 sX5 ++ (wg4 cI cZ d4 sX4 ++ (wg3 d6 d6a d6b sX3 ++ (wg5 cI cZ d6a sX5 ++ wg0 cI cZ d6b sX0) ++ (wg6 cI cZ d8 sX6 ++ (wg7 cI cZ d10 sX7 ++ ([(q11, .inr (2, [.null, .null, .null, .int 0, .int 0, .int 0]))]))))))) := hD1
  replace hS := hS1
  clear hP1 hD1 hS1
  refine W.widen (k := 31) (n := 2290) (Nat.le_of_ble_eq_true rfl) (Nat.le_of_ble_eq_true rfl) ?_
  refine lv_dup hx hb dX8_init_63 rfl ?_
  have hPc : va_P D vwCl ([(q11, .inr (2, [.null, .null, .null, .int 0, .int 0, .int 0]))]) H := hP.sub [31] rfl
  have hDc : va_D A ([(q11, .inr (2, [.null, .null, .null, .int 0, .int 0, .int 0]))]) := hD.sub [31] (by decide) rfl
  have hFc := va_free (wc := ([(q11, .inr (2, [.null, .null, .null, .int 0, .int 0, .int 0]))])) hD hS hA [31] rfl
  refine q_iv (va_runIN (As := []) (rest := [.ref q11, .ref h0]) ⟨hx, hb, hml, hown, hts⟩ (kX2_init l D cI cZ cO q11 H.size) ⟨va_cnB 0 hts gX8_init_X2_init_n46 rfl rfl rfl hE.2.2.2.2.2.2.1 hw31 (by decide +kernel) ⟨Nat.le_of_ble_eq_true rfl, Nat.le_of_ble_eq_true rfl⟩, rfl, hw32⟩ (q_mS hE hPc hDc) rfl rfl hl.1 rfl (lv_room (Nat.le_of_ble_eq_true rfl)) dX8_init_64 ⟨Nat.le_of_ble_eq_true rfl, Nat.le_of_ble_eq_true rfl⟩) hS hFc hFc (fun t H locs e1 hB hk hS1 => ?_)
  obtain ⟨d12, rfl, hP1, hD1⟩ := hB
  rw [e1] at hP1
  obtain ⟨hP2, hD2⟩ := va_join (wr := ([(h0, .inr (8, [.ref (d2 0), .ref (d4 0), .ref (d6 0), .ref (d8 0), .ref (d10 0), .null, .null]))] ++ (wg5 cI cZ d2 sX5 ++ (wg4 cI cZ d4 sX4 ++ (wg3 d6 d6a d6b sX3 ++ (wg5 cI cZ d6a sX5 ++ wg0 cI cZ d6b sX0) ++ (wg6 cI cZ d8 sX6 ++ (wg7 cI cZ d10 sX7))))))) (w1 := (wg2 cI cZ d12 sX2)) hP hD [31] [0, 1, 2, 3, 4, 5, 6, 7, 8, 9, 10, 11, 12, 13, 14, 15, 16, 17, 18, 19, 20, 21, 22, 23, 24, 25, 26, 27, 28, 29, 30] rfl rfl (by decide) (by decide) hk hFc hP1 hD1
  clear hP1 hD1 hPc hDc
  have hP1 := hP2
  have hD1 := hD2
  clear hP2 hD2
  replace hP : va_P D vwCl ([(h0, .inr (8, [.ref (d2 0), .ref (d4 0), .ref (d6 0), .ref (d8 0), .ref (d10 0), .null, .null]))] ++ (wg5 cI cZ d2 sX5 ++ (wg4 cI cZ d4 sX4 ++ (wg3 d6 d6a d6b sX3 ++ (wg5 cI cZ d6a sX5 ++ wg0 cI cZ d6b sX0) ++ (wg6 cI cZ d8 sX6 ++ (wg7 cI cZ d10 sX7 ++ (wg2 cI cZ d12 sX2))))))) H := hP1
  replace hD : va_D A ([(h0, .inr (8, [.ref (d2 0), .ref (d4 0), .ref (d6 0), .ref (d8 0), .ref (d10 0), .null, .null]))] ++ (wg5 cI cZ d2 sX5 ++ (wg4 cI cZ d4 sX4 ++ (wg3 d6 d6a d6b sX3 ++ (wg5 cI cZ d6a sX5 ++ wg0 cI cZ d6b sX0) ++ (wg6 cI cZ d8 sX6 ++ (wg7 cI cZ d10 sX7 ++ (wg2 cI cZ d12 sX2))))))) := hD1
  replace hS := hS1
  clear hP1 hD1 hS1
  refine W.widen (k := 34) (n := 2392) (Nat.le_of_ble_eq_true rfl) (Nat.le_of_ble_eq_true rfl) ?_
  refine va_putF (D := D) (ci := 8) (v := .ref (d12 0)) (ty := .object "HailNames$NetFinder") (C := RX8) (T := TX8) (N := 7) hx hb hts hi8 tyX8 tyX8_ok nmX8 hown hE.1 hP hD hS 0 rfl rfl 5 (by decide) hw33 (fun _ h9 => h9) rfl hin rfl (by decide +kernel) rfl rfl (Nat.le_of_ble_eq_true rfl) dX8_init_67 (fun H locs hP1 hD1 hS1 => ?_)
  replace hP : va_P D vwCl ([(h0, .inr (8, [.ref (d2 0), .ref (d4 0), .ref (d6 0), .ref (d8 0), .ref (d10 0), .ref (d12 0), .null]))] ++ (wg5 cI cZ d2 sX5 ++ (wg4 cI cZ d4 sX4 ++ (wg3 d6 d6a d6b sX3 ++ (wg5 cI cZ d6a sX5 ++ wg0 cI cZ d6b sX0) ++ (wg6 cI cZ d8 sX6 ++ (wg7 cI cZ d10 sX7 ++ (wg2 cI cZ d12 sX2))))))) H := hP1
  replace hD : va_D A ([(h0, .inr (8, [.ref (d2 0), .ref (d4 0), .ref (d6 0), .ref (d8 0), .ref (d10 0), .ref (d12 0), .null]))] ++ (wg5 cI cZ d2 sX5 ++ (wg4 cI cZ d4 sX4 ++ (wg3 d6 d6a d6b sX3 ++ (wg5 cI cZ d6a sX5 ++ wg0 cI cZ d6b sX0) ++ (wg6 cI cZ d8 sX6 ++ (wg7 cI cZ d10 sX7 ++ (wg2 cI cZ d12 sX2))))))) := hD1
  replace hS := hS1
  clear hP1 hD1 hS1
  refine lv_aload_n hx hb dX8_init_70 rfl (lv_at hl 0 rfl) ?_
  refine lv_iconst (v := 2) hx hb dX8_init_71 (by decide) ?_
  refine q_newq (N := 2) hx hb hown hw34 hE hP hD hS hA (by decide) (by decide +kernel) (by decide +kernel) (Nat.le_of_ble_eq_true rfl) (Nat.le_of_ble_eq_true rfl) dX8_init_72 (fun q13 H hP1 hD1 hS1 => ?_)
  replace hP : va_P D vwCl ([(h0, .inr (8, [.ref (d2 0), .ref (d4 0), .ref (d6 0), .ref (d8 0), .ref (d10 0), .ref (d12 0), .null]))] ++ (wg5 cI cZ d2 sX5 ++ (wg4 cI cZ d4 sX4 ++ (wg3 d6 d6a d6b sX3 ++ (wg5 cI cZ d6a sX5 ++ wg0 cI cZ d6b sX0) ++ (wg6 cI cZ d8 sX6 ++ (wg7 cI cZ d10 sX7 ++ (wg2 cI cZ d12 sX2 ++ ([(q13, .inl (cO, 2, .inr (.inr (.inr (.inr (fun _ => none))))))])))))))) H := hP1
  replace hD : va_D A ([(h0, .inr (8, [.ref (d2 0), .ref (d4 0), .ref (d6 0), .ref (d8 0), .ref (d10 0), .ref (d12 0), .null]))] ++ (wg5 cI cZ d2 sX5 ++ (wg4 cI cZ d4 sX4 ++ (wg3 d6 d6a d6b sX3 ++ (wg5 cI cZ d6a sX5 ++ wg0 cI cZ d6b sX0) ++ (wg6 cI cZ d8 sX6 ++ (wg7 cI cZ d10 sX7 ++ (wg2 cI cZ d12 sX2 ++ ([(q13, .inl (cO, 2, .inr (.inr (.inr (.inr (fun _ => none))))))])))))))) := hD1
  replace hS := hS1
  clear hP1 hD1 hS1
  refine W.widen (k := 35) (n := 2394) (Nat.le_of_ble_eq_true rfl) (Nat.le_of_ble_eq_true rfl) ?_
  refine va_putF (D := D) (ci := 8) (v := .ref q13) (ty := .array (.object "HailNames$Image")) (C := RX8) (T := TX8) (N := 7) hx hb hts hi8 tyX8 tyX8_ok nmX8 hown hE.1 hP hD hS 0 rfl rfl 6 (by decide) hw35 (fun _ h9 => h9) rfl hin rfl (by decide +kernel) rfl rfl (Nat.le_of_ble_eq_true rfl) dX8_init_75 (fun H locs hP1 hD1 hS1 => ?_)
  replace hP : va_P D vwCl ([(h0, .inr (8, [.ref (d2 0), .ref (d4 0), .ref (d6 0), .ref (d8 0), .ref (d10 0), .ref (d12 0), .ref q13]))] ++ (wg5 cI cZ d2 sX5 ++ (wg4 cI cZ d4 sX4 ++ (wg3 d6 d6a d6b sX3 ++ (wg5 cI cZ d6a sX5 ++ wg0 cI cZ d6b sX0) ++ (wg6 cI cZ d8 sX6 ++ (wg7 cI cZ d10 sX7 ++ (wg2 cI cZ d12 sX2 ++ ([(q13, .inl (cO, 2, .inr (.inr (.inr (.inr (fun _ => none))))))])))))))) H := hP1
  replace hD : va_D A ([(h0, .inr (8, [.ref (d2 0), .ref (d4 0), .ref (d6 0), .ref (d8 0), .ref (d10 0), .ref (d12 0), .ref q13]))] ++ (wg5 cI cZ d2 sX5 ++ (wg4 cI cZ d4 sX4 ++ (wg3 d6 d6a d6b sX3 ++ (wg5 cI cZ d6a sX5 ++ wg0 cI cZ d6b sX0) ++ (wg6 cI cZ d8 sX6 ++ (wg7 cI cZ d10 sX7 ++ (wg2 cI cZ d12 sX2 ++ ([(q13, .inl (cO, 2, .inr (.inr (.inr (.inr (fun _ => none))))))])))))))) := hD1
  replace hS := hS1
  clear hP1 hD1 hS1
  refine lv_iconst (v := 0) hx hb dX8_init_78 (by decide) ?_
  refine lv_istore_n (lv' := [(1, .int 0), (0, .ref h0)]) hx hb dX8_init_79 rfl hl (by decide) rfl (fun ls hl => ?_)
  refine lv_iload_n hx hb dX8_init_80 rfl (lv_at hl 0 rfl) ?_
  refine lv_iconst (v := 2) hx hb dX8_init_81 (by decide) ?_
  refine lv_icmp_ge (tgt := 104) hx hb dX8_init_82 (by decide) (fun c1 => absurd c1 (by decide)) (fun _ => ?_)
  refine lv_aload_n hx hb dX8_init_85 rfl (lv_at hl 1 rfl) ?_
  refine va_get (D := D) (ci := 8) (v := .ref q13) (C := RX8) (T := TX8) (N := 7) hx hb hts hi8 hown hE.1 hP 0 rfl rfl 6 (by decide) hw35 (fun _ h9 => h9) rfl dX8_init_86 ?_
  refine lv_iload_n hx hb dX8_init_89 rfl (lv_at hl 0 rfl) ?_
  refine va_new (ci := 1) (fs := [.null, .null, .int 0]) (C := RX1) (T := TX1) (N := 3) hx hb hts hi1 tyX1 tyX1_ok hown hw34 hw36 hw37 hE.1 hP hD hS hA rfl (fun j hj => by rcases (show j = 0 ∨ j = 1 ∨ j = 2 by omega) with rfl | rfl | rfl <;> rfl) (Nat.le_of_ble_eq_true rfl) (Nat.le_of_ble_eq_true rfl) dX8_init_90 (fun q14 H hP1 hD1 hS1 => ?_)
  replace hP : va_P D vwCl ([(h0, .inr (8, [.ref (d2 0), .ref (d4 0), .ref (d6 0), .ref (d8 0), .ref (d10 0), .ref (d12 0), .ref q13]))] ++ (wg5 cI cZ d2 sX5 ++ (wg4 cI cZ d4 sX4 ++ (wg3 d6 d6a d6b sX3 ++ (wg5 cI cZ d6a sX5 ++ wg0 cI cZ d6b sX0) ++ (wg6 cI cZ d8 sX6 ++ (wg7 cI cZ d10 sX7 ++ (wg2 cI cZ d12 sX2 ++ ([(q13, .inl (cO, 2, .inr (.inr (.inr (.inr (fun _ => none)))))), (q14, .inr (1, [.null, .null, .int 0]))])))))))) H := hP1
  replace hD : va_D A ([(h0, .inr (8, [.ref (d2 0), .ref (d4 0), .ref (d6 0), .ref (d8 0), .ref (d10 0), .ref (d12 0), .ref q13]))] ++ (wg5 cI cZ d2 sX5 ++ (wg4 cI cZ d4 sX4 ++ (wg3 d6 d6a d6b sX3 ++ (wg5 cI cZ d6a sX5 ++ wg0 cI cZ d6b sX0) ++ (wg6 cI cZ d8 sX6 ++ (wg7 cI cZ d10 sX7 ++ (wg2 cI cZ d12 sX2 ++ ([(q13, .inl (cO, 2, .inr (.inr (.inr (.inr (fun _ => none)))))), (q14, .inr (1, [.null, .null, .int 0]))])))))))) := hD1
  replace hS := hS1
  clear hP1 hD1 hS1
  refine W.widen (k := 36) (n := 2397) (Nat.le_of_ble_eq_true rfl) (Nat.le_of_ble_eq_true rfl) ?_
  refine lv_dup hx hb dX8_init_93 rfl ?_
  have hPc : va_P D vwCl ([(q14, .inr (1, [.null, .null, .int 0]))]) H := hP.sub [36] rfl
  have hDc : va_D A ([(q14, .inr (1, [.null, .null, .int 0]))]) := hD.sub [36] (by decide) rfl
  have hFc := va_free (wc := ([(q14, .inr (1, [.null, .null, .int 0]))])) hD hS hA [36] rfl
  refine q_iv (va_runIN (As := []) (rest := [.ref q14, .int 0, .ref q13]) ⟨hx, hb, hml, hown, hts⟩ (kX1_init l D cI cZ cO q14 H.size) ⟨va_cnB 0 hts gX8_init_X1_init_n57 rfl rfl rfl hE.2.2.2.2.2.2.2.1 hw37 (by decide +kernel) ⟨Nat.le_of_ble_eq_true rfl, Nat.le_of_ble_eq_true rfl⟩, rfl, hw38⟩ (q_mS hE hPc hDc) rfl rfl hl.1 rfl (lv_room (Nat.le_of_ble_eq_true rfl)) dX8_init_94 ⟨Nat.le_of_ble_eq_true rfl, Nat.le_of_ble_eq_true rfl⟩) hS hFc hFc (fun t H locs e1 hB hk hS1 => ?_)
  obtain ⟨d15, d15a, d15b, rfl, hP1, hD1⟩ := hB
  rw [e1] at hP1
  obtain ⟨hP2, hD2⟩ := va_join (wr := ([(h0, .inr (8, [.ref (d2 0), .ref (d4 0), .ref (d6 0), .ref (d8 0), .ref (d10 0), .ref (d12 0), .ref q13]))] ++ (wg5 cI cZ d2 sX5 ++ (wg4 cI cZ d4 sX4 ++ (wg3 d6 d6a d6b sX3 ++ (wg5 cI cZ d6a sX5 ++ wg0 cI cZ d6b sX0) ++ (wg6 cI cZ d8 sX6 ++ (wg7 cI cZ d10 sX7 ++ (wg2 cI cZ d12 sX2 ++ ([(q13, .inl (cO, 2, .inr (.inr (.inr (.inr (fun _ => none))))))]))))))))) (w1 := (wg1 d15 d15a d15b sX1 ++ (wg5 cI cZ d15a sX5 ++ wg7 cI cZ d15b sX7))) hP hD [36] [0, 1, 2, 3, 4, 5, 6, 7, 8, 9, 10, 11, 12, 13, 14, 15, 16, 17, 18, 19, 20, 21, 22, 23, 24, 25, 26, 27, 28, 29, 30, 31, 32, 33, 34, 35] rfl rfl (by decide) (by decide) hk hFc hP1 hD1
  clear hP1 hD1 hPc hDc
  have hP1 := hP2
  have hD1 := hD2
  clear hP2 hD2
  replace hP : va_P D vwCl ([(h0, .inr (8, [.ref (d2 0), .ref (d4 0), .ref (d6 0), .ref (d8 0), .ref (d10 0), .ref (d12 0), .ref q13]))] ++ (wg5 cI cZ d2 sX5 ++ (wg4 cI cZ d4 sX4 ++ (wg3 d6 d6a d6b sX3 ++ (wg5 cI cZ d6a sX5 ++ wg0 cI cZ d6b sX0) ++ (wg6 cI cZ d8 sX6 ++ (wg7 cI cZ d10 sX7 ++ (wg2 cI cZ d12 sX2 ++ ([(q13, .inl (cO, 2, .inr (.inr (.inr (.inr (fun _ => none))))))] ++ (wg1 d15 d15a d15b sX1 ++ (wg5 cI cZ d15a sX5 ++ wg7 cI cZ d15b sX7)))))))))) H := hP1
  replace hD : va_D A ([(h0, .inr (8, [.ref (d2 0), .ref (d4 0), .ref (d6 0), .ref (d8 0), .ref (d10 0), .ref (d12 0), .ref q13]))] ++ (wg5 cI cZ d2 sX5 ++ (wg4 cI cZ d4 sX4 ++ (wg3 d6 d6a d6b sX3 ++ (wg5 cI cZ d6a sX5 ++ wg0 cI cZ d6b sX0) ++ (wg6 cI cZ d8 sX6 ++ (wg7 cI cZ d10 sX7 ++ (wg2 cI cZ d12 sX2 ++ ([(q13, .inl (cO, 2, .inr (.inr (.inr (.inr (fun _ => none))))))] ++ (wg1 d15 d15a d15b sX1 ++ (wg5 cI cZ d15a sX5 ++ wg7 cI cZ d15b sX7)))))))))) := hD1
  replace hS := hS1
  clear hP1 hD1 hS1
  refine W.widen (k := 50) (n := 2492) (Nat.le_of_ble_eq_true rfl) (Nat.le_of_ble_eq_true rfl) ?_
  refine va_astq hx hb hE.1 hP hD hS 35 2 36 1 rfl rfl rfl rfl (q_in (by decide +kernel)) dX8_init_97 (fun H locs hP1 hD1 hS1 => ?_)
  replace hP : va_P D vwCl ([(h0, .inr (8, [.ref (d2 0), .ref (d4 0), .ref (d6 0), .ref (d8 0), .ref (d10 0), .ref (d12 0), .ref q13]))] ++ (wg5 cI cZ d2 sX5 ++ (wg4 cI cZ d4 sX4 ++ (wg3 d6 d6a d6b sX3 ++ (wg5 cI cZ d6a sX5 ++ wg0 cI cZ d6b sX0) ++ (wg6 cI cZ d8 sX6 ++ (wg7 cI cZ d10 sX7 ++ (wg2 cI cZ d12 sX2 ++ ([(q13, .inl (cO, 2, .inr (.inr (.inr (.inr (va_up (fun _ => none) ((0 : Int32).toNatClampNeg) (some (d15 0))))))))] ++ (wg1 d15 d15a d15b sX1 ++ (wg5 cI cZ d15a sX5 ++ wg7 cI cZ d15b sX7)))))))))) H := hP1
  replace hD : va_D A ([(h0, .inr (8, [.ref (d2 0), .ref (d4 0), .ref (d6 0), .ref (d8 0), .ref (d10 0), .ref (d12 0), .ref q13]))] ++ (wg5 cI cZ d2 sX5 ++ (wg4 cI cZ d4 sX4 ++ (wg3 d6 d6a d6b sX3 ++ (wg5 cI cZ d6a sX5 ++ wg0 cI cZ d6b sX0) ++ (wg6 cI cZ d8 sX6 ++ (wg7 cI cZ d10 sX7 ++ (wg2 cI cZ d12 sX2 ++ ([(q13, .inl (cO, 2, .inr (.inr (.inr (.inr (va_up (fun _ => none) ((0 : Int32).toNatClampNeg) (some (d15 0))))))))] ++ (wg1 d15 d15a d15b sX1 ++ (wg5 cI cZ d15a sX5 ++ wg7 cI cZ d15b sX7)))))))))) := hD1
  replace hS := hS1
  clear hP1 hD1 hS1
  refine lv_iinc (v := 1) (lv' := [(1, .int 1), (0, .ref h0)]) hx hb dX8_init_98 hl (k := 0) rfl (by decide) (by decide) rfl (fun ls hl => ?_)
  refine lv_goto (tgt := 80) hx hb dX8_init_101 (by decide) ?_
  refine lv_iload_n hx hb dX8_init_80 rfl (lv_at hl 0 rfl) ?_
  refine lv_iconst (v := 2) hx hb dX8_init_81 (by decide) ?_
  refine lv_icmp_ge (tgt := 104) hx hb dX8_init_82 (by decide) (fun c1 => absurd c1 (by decide)) (fun _ => ?_)
  refine lv_aload_n hx hb dX8_init_85 rfl (lv_at hl 1 rfl) ?_
  refine va_get (D := D) (ci := 8) (v := .ref q13) (C := RX8) (T := TX8) (N := 7) hx hb hts hi8 hown hE.1 hP 0 rfl rfl 6 (by decide) hw35 (fun _ h9 => h9) rfl dX8_init_86 ?_
  refine lv_iload_n hx hb dX8_init_89 rfl (lv_at hl 0 rfl) ?_
  refine va_new (ci := 1) (fs := [.null, .null, .int 0]) (C := RX1) (T := TX1) (N := 3) hx hb hts hi1 tyX1 tyX1_ok hown hw34 hw36 hw37 hE.1 hP hD hS hA rfl (fun j hj => by rcases (show j = 0 ∨ j = 1 ∨ j = 2 by omega) with rfl | rfl | rfl <;> rfl) (Nat.le_of_ble_eq_true rfl) (Nat.le_of_ble_eq_true rfl) dX8_init_90 (fun q16 H hP1 hD1 hS1 => ?_)
  replace hP : va_P D vwCl ([(h0, .inr (8, [.ref (d2 0), .ref (d4 0), .ref (d6 0), .ref (d8 0), .ref (d10 0), .ref (d12 0), .ref q13]))] ++ (wg5 cI cZ d2 sX5 ++ (wg4 cI cZ d4 sX4 ++ (wg3 d6 d6a d6b sX3 ++ (wg5 cI cZ d6a sX5 ++ wg0 cI cZ d6b sX0) ++ (wg6 cI cZ d8 sX6 ++ (wg7 cI cZ d10 sX7 ++ (wg2 cI cZ d12 sX2 ++ ([(q13, .inl (cO, 2, .inr (.inr (.inr (.inr (va_up (fun _ => none) ((0 : Int32).toNatClampNeg) (some (d15 0))))))))] ++ (wg1 d15 d15a d15b sX1 ++ (wg5 cI cZ d15a sX5 ++ wg7 cI cZ d15b sX7) ++ ([(q16, .inr (1, [.null, .null, .int 0]))])))))))))) H := hP1
  replace hD : va_D A ([(h0, .inr (8, [.ref (d2 0), .ref (d4 0), .ref (d6 0), .ref (d8 0), .ref (d10 0), .ref (d12 0), .ref q13]))] ++ (wg5 cI cZ d2 sX5 ++ (wg4 cI cZ d4 sX4 ++ (wg3 d6 d6a d6b sX3 ++ (wg5 cI cZ d6a sX5 ++ wg0 cI cZ d6b sX0) ++ (wg6 cI cZ d8 sX6 ++ (wg7 cI cZ d10 sX7 ++ (wg2 cI cZ d12 sX2 ++ ([(q13, .inl (cO, 2, .inr (.inr (.inr (.inr (va_up (fun _ => none) ((0 : Int32).toNatClampNeg) (some (d15 0))))))))] ++ (wg1 d15 d15a d15b sX1 ++ (wg5 cI cZ d15a sX5 ++ wg7 cI cZ d15b sX7) ++ ([(q16, .inr (1, [.null, .null, .int 0]))])))))))))) := hD1
  replace hS := hS1
  clear hP1 hD1 hS1
  refine W.widen (k := 51) (n := 2495) (Nat.le_of_ble_eq_true rfl) (Nat.le_of_ble_eq_true rfl) ?_
  refine lv_dup hx hb dX8_init_93 rfl ?_
  have hPc : va_P D vwCl ([(q16, .inr (1, [.null, .null, .int 0]))]) H := hP.sub [51] rfl
  have hDc : va_D A ([(q16, .inr (1, [.null, .null, .int 0]))]) := hD.sub [51] (by decide) rfl
  have hFc := va_free (wc := ([(q16, .inr (1, [.null, .null, .int 0]))])) hD hS hA [51] rfl
  refine q_iv (va_runIN (As := []) (rest := [.ref q16, .int 1, .ref q13]) ⟨hx, hb, hml, hown, hts⟩ (kX1_init l D cI cZ cO q16 H.size) ⟨va_cnB 0 hts gX8_init_X1_init_n57 rfl rfl rfl hE.2.2.2.2.2.2.2.1 hw37 (by decide +kernel) ⟨Nat.le_of_ble_eq_true rfl, Nat.le_of_ble_eq_true rfl⟩, rfl, hw38⟩ (q_mS hE hPc hDc) rfl rfl hl.1 rfl (lv_room (Nat.le_of_ble_eq_true rfl)) dX8_init_94 ⟨Nat.le_of_ble_eq_true rfl, Nat.le_of_ble_eq_true rfl⟩) hS hFc hFc (fun t H locs e1 hB hk hS1 => ?_)
  obtain ⟨d17, d17a, d17b, rfl, hP1, hD1⟩ := hB
  rw [e1] at hP1
  obtain ⟨hP2, hD2⟩ := va_join (wr := ([(h0, .inr (8, [.ref (d2 0), .ref (d4 0), .ref (d6 0), .ref (d8 0), .ref (d10 0), .ref (d12 0), .ref q13]))] ++ (wg5 cI cZ d2 sX5 ++ (wg4 cI cZ d4 sX4 ++ (wg3 d6 d6a d6b sX3 ++ (wg5 cI cZ d6a sX5 ++ wg0 cI cZ d6b sX0) ++ (wg6 cI cZ d8 sX6 ++ (wg7 cI cZ d10 sX7 ++ (wg2 cI cZ d12 sX2 ++ ([(q13, .inl (cO, 2, .inr (.inr (.inr (.inr (va_up (fun _ => none) ((0 : Int32).toNatClampNeg) (some (d15 0))))))))] ++ (wg1 d15 d15a d15b sX1 ++ (wg5 cI cZ d15a sX5 ++ wg7 cI cZ d15b sX7))))))))))) (w1 := (wg1 d17 d17a d17b sX1 ++ (wg5 cI cZ d17a sX5 ++ wg7 cI cZ d17b sX7))) hP hD [51] [0, 1, 2, 3, 4, 5, 6, 7, 8, 9, 10, 11, 12, 13, 14, 15, 16, 17, 18, 19, 20, 21, 22, 23, 24, 25, 26, 27, 28, 29, 30, 31, 32, 33, 34, 35, 36, 37, 38, 39, 40, 41, 42, 43, 44, 45, 46, 47, 48, 49, 50] rfl rfl (by decide) (by decide) hk hFc hP1 hD1
  clear hP1 hD1 hPc hDc
  have hP1 := hP2
  have hD1 := hD2
  clear hP2 hD2
  replace hP : va_P D vwCl ([(h0, .inr (8, [.ref (d2 0), .ref (d4 0), .ref (d6 0), .ref (d8 0), .ref (d10 0), .ref (d12 0), .ref q13]))] ++ (wg5 cI cZ d2 sX5 ++ (wg4 cI cZ d4 sX4 ++ (wg3 d6 d6a d6b sX3 ++ (wg5 cI cZ d6a sX5 ++ wg0 cI cZ d6b sX0) ++ (wg6 cI cZ d8 sX6 ++ (wg7 cI cZ d10 sX7 ++ (wg2 cI cZ d12 sX2 ++ ([(q13, .inl (cO, 2, .inr (.inr (.inr (.inr (va_up (fun _ => none) ((0 : Int32).toNatClampNeg) (some (d15 0))))))))] ++ (wg1 d15 d15a d15b sX1 ++ (wg5 cI cZ d15a sX5 ++ wg7 cI cZ d15b sX7) ++ (wg1 d17 d17a d17b sX1 ++ (wg5 cI cZ d17a sX5 ++ wg7 cI cZ d17b sX7))))))))))) H := hP1
  replace hD : va_D A ([(h0, .inr (8, [.ref (d2 0), .ref (d4 0), .ref (d6 0), .ref (d8 0), .ref (d10 0), .ref (d12 0), .ref q13]))] ++ (wg5 cI cZ d2 sX5 ++ (wg4 cI cZ d4 sX4 ++ (wg3 d6 d6a d6b sX3 ++ (wg5 cI cZ d6a sX5 ++ wg0 cI cZ d6b sX0) ++ (wg6 cI cZ d8 sX6 ++ (wg7 cI cZ d10 sX7 ++ (wg2 cI cZ d12 sX2 ++ ([(q13, .inl (cO, 2, .inr (.inr (.inr (.inr (va_up (fun _ => none) ((0 : Int32).toNatClampNeg) (some (d15 0))))))))] ++ (wg1 d15 d15a d15b sX1 ++ (wg5 cI cZ d15a sX5 ++ wg7 cI cZ d15b sX7) ++ (wg1 d17 d17a d17b sX1 ++ (wg5 cI cZ d17a sX5 ++ wg7 cI cZ d17b sX7))))))))))) := hD1
  replace hS := hS1
  clear hP1 hD1 hS1
  refine W.widen (k := 65) (n := 2590) (Nat.le_of_ble_eq_true rfl) (Nat.le_of_ble_eq_true rfl) ?_
  refine va_astq hx hb hE.1 hP hD hS 35 2 51 1 rfl rfl rfl rfl (q_in (by decide +kernel)) dX8_init_97 (fun H locs hP1 hD1 hS1 => ?_)
  replace hP : va_P D vwCl ([(h0, .inr (8, [.ref (d2 0), .ref (d4 0), .ref (d6 0), .ref (d8 0), .ref (d10 0), .ref (d12 0), .ref q13]))] ++ (wg5 cI cZ d2 sX5 ++ (wg4 cI cZ d4 sX4 ++ (wg3 d6 d6a d6b sX3 ++ (wg5 cI cZ d6a sX5 ++ wg0 cI cZ d6b sX0) ++ (wg6 cI cZ d8 sX6 ++ (wg7 cI cZ d10 sX7 ++ (wg2 cI cZ d12 sX2 ++ ([(q13, .inl (cO, 2, .inr (.inr (.inr (.inr (va_up (va_up (fun _ => none) ((0 : Int32).toNatClampNeg) (some (d15 0))) ((1 : Int32).toNatClampNeg) (some (d17 0))))))))] ++ (wg1 d15 d15a d15b sX1 ++ (wg5 cI cZ d15a sX5 ++ wg7 cI cZ d15b sX7) ++ (wg1 d17 d17a d17b sX1 ++ (wg5 cI cZ d17a sX5 ++ wg7 cI cZ d17b sX7))))))))))) H := hP1
  replace hD : va_D A ([(h0, .inr (8, [.ref (d2 0), .ref (d4 0), .ref (d6 0), .ref (d8 0), .ref (d10 0), .ref (d12 0), .ref q13]))] ++ (wg5 cI cZ d2 sX5 ++ (wg4 cI cZ d4 sX4 ++ (wg3 d6 d6a d6b sX3 ++ (wg5 cI cZ d6a sX5 ++ wg0 cI cZ d6b sX0) ++ (wg6 cI cZ d8 sX6 ++ (wg7 cI cZ d10 sX7 ++ (wg2 cI cZ d12 sX2 ++ ([(q13, .inl (cO, 2, .inr (.inr (.inr (.inr (va_up (va_up (fun _ => none) ((0 : Int32).toNatClampNeg) (some (d15 0))) ((1 : Int32).toNatClampNeg) (some (d17 0))))))))] ++ (wg1 d15 d15a d15b sX1 ++ (wg5 cI cZ d15a sX5 ++ wg7 cI cZ d15b sX7) ++ (wg1 d17 d17a d17b sX1 ++ (wg5 cI cZ d17a sX5 ++ wg7 cI cZ d17b sX7))))))))))) := hD1
  replace hS := hS1
  clear hP1 hD1 hS1
  refine lv_iinc (v := 2) (lv' := [(1, .int 2), (0, .ref h0)]) hx hb dX8_init_98 hl (k := 0) rfl (by decide) (by decide) rfl (fun ls hl => ?_)
  refine lv_goto (tgt := 80) hx hb dX8_init_101 (by decide) ?_
  refine lv_iload_n hx hb dX8_init_80 rfl (lv_at hl 0 rfl) ?_
  refine lv_iconst (v := 2) hx hb dX8_init_81 (by decide) ?_
  refine lv_icmp_ge (tgt := 104) hx hb dX8_init_82 (by decide) (fun _ => ?_) (fun c1 => absurd (by decide) c1)
  have hP9 : va_P D vwCl (hn_W cI cZ cO (fun g : Nat => ([d2, d4, d6, d6a, d6b, d8, d10, d12, d15, d15a, d15b, d17, d17a, d17b, (fun j : Nat => ([h0, q13] : List Nat).getD j 0)] : List (Nat → Nat)).getD g (fun _ => 0))) H := hP.sub [1, 2, 3, 4, 5, 6, 7, 8, 9, 10, 11, 12, 13, 14, 15, 16, 17, 18, 19, 20, 21, 22, 23, 24, 25, 26, 27, 28, 29, 30, 31, 32, 33, 34, 36, 37, 38, 39, 40, 41, 42, 43, 44, 45, 46, 47, 48, 49, 50, 51, 52, 53, 54, 55, 56, 57, 58, 59, 60, 61, 62, 63, 64, 65, 0, 35] rfl
  have hD9 : va_D A (hn_W cI cZ cO (fun g : Nat => ([d2, d4, d6, d6a, d6b, d8, d10, d12, d15, d15a, d15b, d17, d17a, d17b, (fun j : Nat => ([h0, q13] : List Nat).getD j 0)] : List (Nat → Nat)).getD g (fun _ => 0))) := hD.sub [1, 2, 3, 4, 5, 6, 7, 8, 9, 10, 11, 12, 13, 14, 15, 16, 17, 18, 19, 20, 21, 22, 23, 24, 25, 26, 27, 28, 29, 30, 31, 32, 33, 34, 36, 37, 38, 39, 40, 41, 42, 43, 44, 45, 46, 47, 48, 49, 50, 51, 52, 53, 54, 55, 56, 57, 58, 59, 60, 61, 62, 63, 64, 65, 0, 35] (by decide) rfl
  exact W.vret hx hb hr (fun t e1 hW => ⟨⟨(), rfl, trivial, (fun g : Nat => ([d2, d4, d6, d6a, d6b, d8, d10, d12, d15, d15a, d15b, d17, d17a, d17b, (fun j : Nat => ([h0, q13] : List Nat).getD j 0)] : List (Nat → Nat)).getD g (fun _ => 0)), rfl, by rw [e1]; exact hP9, hAe ▸ hD9⟩, hAe ▸ hS.F e1⟩) (hAe ▸ hS.2.2) dX8_init_104
