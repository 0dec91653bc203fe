/-! THE START: what the tables say; the two constructors; then the loop -/
set_option maxRecDepth 100000 in
theorem start_E {s : State} {b : Nat} (hts0 : ∀ w ∈ lw_tbl, w.before #[Value.ref b] s = true) : ∃ (D : va_G) (cI cZ cO : ClassId), q_E D cI cZ cO s := by
  have hts : ∀ w ∈ wsL_law, w.before #[Value.ref b] s = true := fun w h => hts0 w (wsL_law_in w h)
  obtain ⟨c0, j0, h0⟩ := u_known (C := RX0) (T := TX0) (N := 3) (n := 3) hts inlX0 (hts0 (.instantiable RX0 3) (List.mem_of_getElem? (i := 161) (by decide +kernel)))
  obtain ⟨c1, j1, h1⟩ := u_known (C := RX1) (T := TX1) (N := 3) (n := 3) hts inlX1 (hts0 (.instantiable RX1 3) (List.mem_of_getElem? (i := 271) (by decide +kernel)))
  obtain ⟨c2, j2, h2⟩ := u_known (C := RX2) (T := TX2) (N := 6) (n := 6) hts inlX2 (hts0 (.instantiable RX2 6) (List.mem_of_getElem? (i := 242) (by decide +kernel)))
  obtain ⟨c3, j3, h3⟩ := u_known (C := RX3) (T := TX3) (N := 8) (n := 8) hts inlX3 (hts0 (.instantiable RX3 8) (List.mem_of_getElem? (i := 153) (by decide +kernel)))
  obtain ⟨c4, j4, h4⟩ := u_known (C := RX4) (T := TX4) (N := 2) (n := 2) hts inlX4 (hts0 (.instantiable RX4 2) (List.mem_of_getElem? (i := 138) (by decide +kernel)))
  obtain ⟨c5, j5, h5⟩ := u_known (C := RX5) (T := TX5) (N := 11) (n := 11) hts inlX5 (hts0 (.instantiable RX5 11) (List.mem_of_getElem? (i := 82) (by decide +kernel)))
  obtain ⟨c6, j6, h6⟩ := u_known (C := RX6) (T := TX6) (N := 1) (n := 1) hts inlX6 (hts0 (.instantiable RX6 1) (List.mem_of_getElem? (i := 212) (by decide +kernel)))
  obtain ⟨c7, j7, h7⟩ := u_known (C := RX7) (T := TX7) (N := 4) (n := 4) hts inlX7 (hts0 (.instantiable RX7 4) (List.mem_of_getElem? (i := 222) (by decide +kernel)))
  obtain ⟨c8, j8, h8⟩ := u_known (C := RX8) (T := TX8) (N := 7) (n := 7) hts inlX8 (hts0 (.instantiable RX8 7) (List.mem_of_getElem? (i := 74) (by decide +kernel)))
  obtain ⟨c9, j9, h9⟩ := u_known (C := RX9) (T := TX9) (N := 37) (n := 37) hts inlX9 (hts0 (.instantiable RX9 37) (List.mem_of_getElem? (i := 702) (by decide +kernel)))
  obtain ⟨cI, kI, pI, i1, i2, i3⟩ := Cond.arrayClass_spec (hts0 (.arrayClass .int) (List.mem_of_getElem? (i := 135) (by decide +kernel)))
  obtain ⟨cZ, kZ, pZ, z1, z2, z3⟩ := Cond.arrayClass_spec (hts0 (.arrayClass .boolean) (List.mem_of_getElem? (i := 136) (by decide +kernel)))
  obtain ⟨comp, cO, kO, o1, o2, o3, o4, o5⟩ := Cond.arrayOver_spec (hts0 (.arrayOver (.object RX1)) (List.mem_of_getElem? (i := 270) (by decide +kernel)))
  refine ⟨(fun k => if k = 0 then c0 else if k = 1 then c1 else if k = 2 then c2 else if k = 3 then c3 else if k = 4 then c4 else if k = 5 then c5 else if k = 6 then c6 else if k = 7 then c7 else if k = 8 then c8 else c9, fun k => if k = 0 then j0 else if k = 1 then j1 else if k = 2 then j2 else if k = 3 then j3 else if k = 4 then j4 else if k = 5 then j5 else if k = 6 then j6 else if k = 7 then j7 else if k = 8 then j8 else j9), cI, cZ, cO, ⟨?_, ?_⟩, ?_⟩
  · intro k q hq
    match k, hq with
    | 0, hq => cases hq; exact h0
    | 1, hq => cases hq; exact h1
    | 2, hq => cases hq; exact h2
    | 3, hq => cases hq; exact h3
    | 4, hq => cases hq; exact h4
    | 5, hq => cases hq; exact h5
    | 6, hq => cases hq; exact h6
    | 7, hq => cases hq; exact h7
    | 8, hq => cases hq; exact h8
    | 9, hq => cases hq; exact h9
    | k + 10, hq => simp [vwCl] at hq
  · intro k q hq
    match k, hq with
    | 0, hq => cases hq; exact ⟨fun n z => ⟨fun k h => (by cases h), kI, i2, pI, i3⟩, i1⟩
    | 1, hq => cases hq; exact ⟨fun n z => ⟨fun k h => (by cases h), kZ, z2, pZ, z3⟩, z1⟩
    | 2, hq => cases hq; exact ⟨fun n z => ⟨fun k h => (by cases h), kO, o3, comp, o4⟩, kO, comp, o3, o4, o1, o5⟩
    | k + 3, hq => simp at hq
  · exact ⟨va_Nw.of rfl (hts0 (.methodLinkNest RX8 18 yX4_init RX8) (List.mem_of_getElem? (i := 139) (by decide +kernel))), va_Nw.of rfl (hts0 (.methodLinkNest RX8 25 yX3_init RX8) (List.mem_of_getElem? (i := 154) (by decide +kernel))), va_Nw.of rfl (hts0 (.methodLinkNest RX3 20 yX0_init RX8) (List.mem_of_getElem? (i := 162) (by decide +kernel))), va_Nw.of rfl (hts0 (.methodLinkNest RX8 32 yX6_init RX8) (List.mem_of_getElem? (i := 213) (by decide +kernel))), va_Nw.of rfl (hts0 (.methodLinkNest RX8 39 yX7_init RX8) (List.mem_of_getElem? (i := 223) (by decide +kernel))), va_Nw.of rfl (hts0 (.methodLinkNest RX8 46 yX2_init RX8) (List.mem_of_getElem? (i := 243) (by decide +kernel))), va_Nw.of rfl (hts0 (.methodLinkNest RX8 57 yX1_init RX8) (List.mem_of_getElem? (i := 272) (by decide +kernel))), va_Nw.of rfl (hts0 (.methodLinkNest RX1 18 yX7_init RX8) (List.mem_of_getElem? (i := 279) (by decide +kernel))), va_Nw.of rfl (hts0 (.methodLinkNest RX4 29 yX8_isPerson RX8) (List.mem_of_getElem? (i := 379) (by decide +kernel))), va_Nw.of rfl (hts0 (.methodLinkNest RX4 42 yX8_isCell RX8) (List.mem_of_getElem? (i := 384) (by decide +kernel))), va_Nw.of rfl (hts0 (.methodLinkNest RX4 36 yX8_isReader RX8) (List.mem_of_getElem? (i := 385) (by decide +kernel))), va_Nw.of rfl (hts0 (.methodLinkNest RX0 21 yX8_isPerson RX8) (List.mem_of_getElem? (i := 433) (by decide +kernel))), va_Nw.of rfl (hts0 (.methodLinkNest RX0 25 yX8_isCell RX8) (List.mem_of_getElem? (i := 434) (by decide +kernel))), va_Nw.of rfl (hts0 (.methodLinkNest RX0 28 yX8_isReader RX8) (List.mem_of_getElem? (i := 435) (by decide +kernel))), va_Nw.of rfl (hts0 (.methodLinkNest RX5 94 yX8_isCell RX8) (List.mem_of_getElem? (i := 452) (by decide +kernel))), va_AO.of (hts0 (.arrayOver (.object RX1)) (List.mem_of_getElem? (i := 270) (by decide +kernel)))⟩
theorem w_start (cI cZ cO : ClassId) (dd1 : Nat → Nat → Nat) (d : Nat → Nat) : ∃ dd : Nat → Nat → Nat, dd 14 = dd1 14 ∧ dd 16 = d ∧ hn_W cI cZ cO dd1 ++ wg9 cI cZ d sX9 = lx_W cI cZ cO dd sX5 sX4 sX3 sX5 sX0 sX6 sX7 sX2 sX1 sX5 sX7 sX1 sX5 sX7 sX9 := by
  refine ⟨fun k => if k = 16 then d else dd1 k, rfl, rfl, ?_⟩
  unfold hn_W lx_W
  simp only [List.append_assoc]
  rfl
set_option maxHeartbeats 40000000 in
set_option maxRecDepth 100000 in
theorem whole_start {p : Program} {e : Env} {s : State} {m : MethodId} {below : List Frame} {meth : Method} {c : Code} (l : Launch) (hflags : l.flags = flags0) {b L : Nat} {xs : Nat → Int32} (hL : L ≤ 2560) (C0 : lw_At p s m meth c b L xs) : W p l e room_1 s m #[Value.ref b] below meth c s.heap [] 0 0 (lw_Z below #[Value.ref b] s) (entryFrame m ([Value.ref b] : List Value).toArray 4) := by
  obtain ⟨hx, hb, hr, hml, hown, hts0, hX, hbl, hlocks, hgv⟩ := id C0
  have hts : ∀ w ∈ wsL_law, w.before #[Value.ref b] s = true := fun w h => hts0 w (wsL_law_in w h)
  obtain ⟨D, cI, cZ, cO, hE⟩ := start_E hts0
  have hw1 := hts0 (.classLink RL 7 RX8) (List.mem_of_getElem? (i := 73) (by decide +kernel))
  have hw2 := hts0 (.instantiable RX8 7) (List.mem_of_getElem? (i := 74) (by decide +kernel))
  have hw3 := hts0 (.initialized RX8) (List.mem_of_getElem? (i := 60) (by decide +kernel))
  have hw4 := hts0 (.methodLink RL 9 yX8_init) (List.mem_of_getElem? (i := 75) (by decide +kernel))
  have hw5 := hts0 (.instanceMethod yX8_init) (List.mem_of_getElem? (i := 76) (by decide +kernel))
  have hv1 := hts0 (.classLink RL 10 RX9) (List.mem_of_getElem? (i := 701) (by decide +kernel))
  have hv2 := hts0 (.instantiable RX9 37) (List.mem_of_getElem? (i := 702) (by decide +kernel))
  have hv3 := hts0 (.initialized RX9) (List.mem_of_getElem? (i := 69) (by decide +kernel))
  have hv4 := hts0 (.methodLink RL 12 yX9_init) (List.mem_of_getElem? (i := 703) (by decide +kernel))
  have hv5 := hts0 (.instanceMethod yX9_init) (List.mem_of_getElem? (i := 704) (by decide +kernel))
  obtain ⟨A, hAe⟩ : ∃ A : Nat → Prop, A = fun q : Nat => s.heap.size ≤ q := ⟨_, rfl⟩
  have hA : ∀ q : Nat, s.heap.size ≤ q → A q := fun q h => by rw [hAe]; exact h
  have hS : va_S A s.heap s.heap [] := va_S.rf
  have hP : va_P D vwCl [] s.heap := fun k q h => by simp at h
  have hD : va_D A [] := ⟨fun i j p q h => by simp at h, fun k q h => by simp at h⟩
  have hl := lv_entry ([.ref b]) (n := 4) (Nat.le_of_ble_eq_true rfl)
  rw [lg_entry_eq]
  generalize (lg_sl ([.ref b]) ++ List.replicate (4 - (lg_sl ([.ref b])).length) Slot.unset).toArray = ls at hl ⊢
  have hl : lv_has ls 4 [(0, .ref b)] := hl
  refine va_new (ci := 8) (fs := [.null, .null, .null, .null, .null, .null, .null]) (C := RX8) (T := TX8) (N := 7) hx hb hts inlX8 tyX8 tyX8_ok hown hw1 hw2 hw3 hE.1 hP hD hS hA rfl (fun j hj => by rcases (show j = 0 ∨ j = 1 ∨ j = 2 ∨ j = 3 ∨ j = 4 ∨ j = 5 ∨ j = 6 by omega) with rfl | rfl | rfl | rfl | rfl | rfl | rfl <;> rfl) (Nat.le_of_ble_eq_true rfl) (Nat.le_of_ble_eq_true rfl) dL_law_0 (fun q1 H hP1 hD1 hS1 => ?_)
  replace hP : va_P D vwCl [(q1, .inr (8, [.null, .null, .null, .null, .null, .null, .null]))] H := hP1
  replace hD : va_D A [(q1, .inr (8, [.null, .null, .null, .null, .null, .null, .null]))] := hD1
  replace hS := hS1
  clear hP1 hD1 hS1
  refine W.widen (k := 1) (n := 7) (Nat.le_of_ble_eq_true rfl) (Nat.le_of_ble_eq_true rfl) ?_
  refine lv_dup hx hb dL_law_3 rfl ?_
  have hFc := va_free (wc := [(q1, .inr (8, [.null, .null, .null, .null, .null, .null, .null]))]) hD hS hA [0] rfl
  refine q_iv (va_runI (As := []) (rest := [.ref q1]) ⟨hx, hb, hml, hown, hts⟩ (kX8_init l D cI cZ cO q1 H.size) (cwI 0 hts gL_law_X8_init rfl rfl rfl hw3 hw4 hw5 rfl (by decide +kernel) ⟨(Nat.le_of_ble_eq_true rfl), (Nat.le_of_ble_eq_true rfl)⟩) (q_mS hE hP hD) rfl rfl hl.1 rfl (lv_room (Nat.le_of_ble_eq_true rfl)) dL_law_4 ⟨(Nat.le_of_ble_eq_true rfl), (Nat.le_of_ble_eq_true rfl)⟩) hS hFc hFc (fun t H locs e1 hB hk hS1 => ?_)
  obtain ⟨dd1, hq1, hP1, hD1⟩ := hB
  rw [e1] at hP1
  obtain ⟨hP2, hD2⟩ := va_join (wr := []) (w1 := hn_W cI cZ cO dd1) hP hD [0] [] rfl rfl (by decide) (by decide) hk hFc hP1 hD1
  replace hP : va_P D vwCl (hn_W cI cZ cO dd1) H := hP2
  replace hD : va_D A (hn_W cI cZ cO dd1) := hD2
  replace hS := hS1
  clear hP1 hD1 hS1 hP2 hD2 hk hFc
  refine W.widen (k := 66) (n := 2597) (Nat.le_of_ble_eq_true rfl) (Nat.le_of_ble_eq_true rfl) ?_
  rw [← hq1]
  refine lv_astore_n (lv' := [(1, .ref (dd1 14 0)), (0, .ref b)]) hx hb dL_law_7 rfl hl (by decide) rfl (fun ls hl => ?_)
  refine va_new (ci := 9) (fs := [.null, .null, .null, .null, .null, .null, .null, .null, .null, .int 0, .int 0, .null, .null, .null, .int 0, .null, .int 0, .null, .null, .null, .int 0, .int 0, .int 0, .null, .int 0, .int 0, .int 0, .int 0, .int 0, .int 0, .null, .null, .null, .null, .null, .int 0, .int 0]) (C := RX9) (T := TX9) (N := 37) hx hb hts inlX9 tyX9 tyX9_ok hown hv1 hv2 hv3 hE.1 hP hD hS hA rfl (fun j hj => by rcases (show j = 0 ∨ j = 1 ∨ j = 2 ∨ j = 3 ∨ j = 4 ∨ j = 5 ∨ j = 6 ∨ j = 7 ∨ j = 8 ∨ j = 9 ∨ j = 10 ∨ j = 11 ∨ j = 12 ∨ j = 13 ∨ j = 14 ∨ j = 15 ∨ j = 16 ∨ j = 17 ∨ j = 18 ∨ j = 19 ∨ j = 20 ∨ j = 21 ∨ j = 22 ∨ j = 23 ∨ j = 24 ∨ j = 25 ∨ j = 26 ∨ j = 27 ∨ j = 28 ∨ j = 29 ∨ j = 30 ∨ j = 31 ∨ j = 32 ∨ j = 33 ∨ j = 34 ∨ j = 35 ∨ j = 36 by omega) with rfl | rfl | rfl | rfl | rfl | rfl | rfl | rfl | rfl | rfl | rfl | rfl | rfl | rfl | rfl | rfl | rfl | rfl | rfl | rfl | rfl | rfl | rfl | rfl | rfl | rfl | rfl | rfl | rfl | rfl | rfl | rfl | rfl | rfl | rfl | rfl | rfl <;> rfl) (Nat.le_of_ble_eq_true rfl) (Nat.le_of_ble_eq_true rfl) dL_law_8 (fun q2 H hP1 hD1 hS1 => ?_)
  replace hP : va_P D vwCl (hn_W cI cZ cO dd1 ++ [(q2, .inr (9, [.null, .null, .null, .null, .null, .null, .null, .null, .null, .int 0, .int 0, .null, .null, .null, .int 0, .null, .int 0, .null, .null, .null, .int 0, .int 0, .int 0, .null, .int 0, .int 0, .int 0, .int 0, .int 0, .int 0, .null, .null, .null, .null, .null, .int 0, .int 0]))]) H := hP1
  replace hD : va_D A (hn_W cI cZ cO dd1 ++ [(q2, .inr (9, [.null, .null, .null, .null, .null, .null, .null, .null, .null, .int 0, .int 0, .null, .null, .null, .int 0, .null, .int 0, .null, .null, .null, .int 0, .int 0, .int 0, .null, .int 0, .int 0, .int 0, .int 0, .int 0, .int 0, .null, .null, .null, .null, .null, .int 0, .int 0]))]) := hD1
  replace hS := hS1
  clear hP1 hD1 hS1
  refine W.widen (k := 67) (n := 2634) (Nat.le_of_ble_eq_true rfl) (Nat.le_of_ble_eq_true rfl) ?_
  refine lv_dup hx hb dL_law_11 rfl ?_
  have hPc : va_P D vwCl [(q2, .inr (9, [.null, .null, .null, .null, .null, .null, .null, .null, .null, .int 0, .int 0, .null, .null, .null, .int 0, .null, .int 0, .null, .null, .null, .int 0, .int 0, .int 0, .null, .int 0, .int 0, .int 0, .int 0, .int 0, .int 0, .null, .null, .null, .null, .null, .int 0, .int 0]))] H := hP.sub [66] rfl
  have hDc : va_D A [(q2, .inr (9, [.null, .null, .null, .null, .null, .null, .null, .null, .null, .int 0, .int 0, .null, .null, .null, .int 0, .null, .int 0, .null, .null, .null, .int 0, .int 0, .int 0, .null, .int 0, .int 0, .int 0, .int 0, .int 0, .int 0, .null, .null, .null, .null, .null, .int 0, .int 0]))] := hD.sub [66] (by decide) rfl
  have hFc := va_free (wc := [(q2, .inr (9, [.null, .null, .null, .null, .null, .null, .null, .null, .null, .int 0, .int 0, .null, .null, .null, .int 0, .null, .int 0, .null, .null, .null, .int 0, .int 0, .int 0, .null, .int 0, .int 0, .int 0, .int 0, .int 0, .int 0, .null, .null, .null, .null, .null, .int 0, .int 0]))]) hD hS hA [66] rfl
  refine q_iv (va_runI (As := []) (rest := [.ref q2]) ⟨hx, hb, hml, hown, hts⟩ (kX9_init l D cI cZ cO q2 H.size) (cwI 0 hts gL_law_X9_init rfl rfl rfl hv3 hv4 hv5 rfl (by decide +kernel) ⟨(Nat.le_of_ble_eq_true rfl), (Nat.le_of_ble_eq_true rfl)⟩) (q_mS hE hPc hDc) rfl rfl hl.1 rfl (lv_room (Nat.le_of_ble_eq_true rfl)) dL_law_12 ⟨(Nat.le_of_ble_eq_true rfl), (Nat.le_of_ble_eq_true rfl)⟩) hS hFc hFc (fun t H locs e1 hB hk hS1 => ?_)
  obtain ⟨d, hq2, hP1, hD1⟩ := hB
  rw [e1] at hP1
  obtain ⟨hP2, hD2⟩ := va_join (wr := hn_W cI cZ cO dd1) (w1 := wg9 cI cZ d sX9) hP hD [66] [0, 1, 2, 3, 4, 5, 6, 7, 8, 9, 10, 11, 12, 13, 14, 15, 16, 17, 18, 19, 20, 21, 22, 23, 24, 25, 26, 27, 28, 29, 30, 31, 32, 33, 34, 35, 36, 37, 38, 39, 40, 41, 42, 43, 44, 45, 46, 47, 48, 49, 50, 51, 52, 53, 54, 55, 56, 57, 58, 59, 60, 61, 62, 63, 64, 65] rfl rfl (by decide) (by decide) hk hFc hP1 hD1
  clear hP hD hPc hDc hP1 hD1 hk hFc
  replace hS := hS1
  obtain ⟨dd, f14, f16, hw⟩ := w_start cI cZ cO dd1 d
  rw [hw] at hP2 hD2
  have g14 : dd1 14 0 = dd 14 0 := by rw [f14]
  have g16 : d 0 = dd 16 0 := by rw [f16]
  rw [g14] at hl
  rw [← hq2, g16]
  refine W.widen (k := 600000) (n := 7302250) (Nat.le_of_ble_eq_true rfl) (Nat.le_of_ble_eq_true rfl) ?_
  refine lv_astore_n (lv' := [(2, .ref (dd 16 0)), (1, .ref (dd 14 0)), (0, .ref b)]) hx hb dL_law_15 rfl hl (by decide) rfl (fun ls hl => ?_)
  refine lv_iconst (v := 0) hx hb dL_law_16 (by decide) ?_
  refine lv_istore_n (lv' := [(3, .int 0), (2, .ref (dd 16 0)), (1, .ref (dd 14 0)), (0, .ref b)]) hx hb dL_law_17 rfl hl (by decide) rfl (fun ls hl => ?_)
  have hz := law_pure (xs := xs) hL 5000 0 sX5 sX4 sX3 sX5 sX0 sX6 sX7 sX2 sX1 sX5 sX7 sX1 sX5 sX7 sX9 (Nat.zero_le L) (by omega) RR_start
  rw [nI_0] at hz
  exact law_loop l C0 D cI cZ cO hE dd A hAe (fun _ _ _ _ _ _ _ _ _ _ _ _ _ _ _ => q_D hD2 rfl) 5000 0 sX5 sX4 sX3 sX5 sX0 sX6 sX7 sX2 sX1 sX5 sX7 sX1 sX5 sX7 sX9 H locs hP2 hS ls (lv_sub hl [3, 2, 1, 0] rfl) hz
