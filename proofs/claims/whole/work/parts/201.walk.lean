abbrev rmX5_whyNotThink : Room := { frames := 0, cells := 0, slots := 0, locals := 0 }
set_option maxHeartbeats 4000000 in
set_option maxRecDepth 100000 in
theorem kX5_whyNotThink (l : Launch) (D : va_G) (cI cZ cO : ClassId) (d0 : Nat → Nat) (S0 : St) (p0 : Int32) (p1 : Int32) (tg : Int32) (ht : xX5_whyNotThink S0 p0 p1 = some tg) : Met l yX5_whyNotThink wsX5_whyNotThink rmX5_whyNotThink (q_PR D cI cZ cO [.ref (d0 0), .int p0, .int p1] (wg5 cI cZ d0 S0)) (vp_Si (fun x => x = tg ∧ True)) 0 0 (fun _ => False) := by
  refine Met.ofW (cc := cX5_whyNotThink) (maxL := 3) (ret := (some .int)) (by decide) rfl ?_
  intro p e s m args below meth c s₁ B hml hv
  obtain ⟨rfl, hE, hP⟩ := hv
  have hx := B.exec
  have hb := B.bytes
  have hr := B.returns
  have hts := atoms_spec (ws := wsX5_whyNotThink) B.pre
  have hown : s.vm.findClass RX5 = some m.cls := findClass_of_methodNamed B.named
  have hlocks := B.notSynchronized
  have hi5 : ∀ w ∈ u_ws RX5 TX5 11, w ∈ wsX5_whyNotThink := by decide +kernel
  have hw0 := hts (.fieldLink RX5 9 "HailNames$Plain" "count" "[I") (by decide +kernel)
  have hl := lv_entry ([.ref (d0 0), .int p0, .int p1]) (n := 3) (Nat.le_of_ble_eq_true rfl)
  rw [lg_entry_eq]
  generalize (lg_sl ([.ref (d0 0), .int p0, .int p1]) ++ List.replicate (3 - (lg_sl ([.ref (d0 0), .int p0, .int p1])).length) Slot.unset).toArray = ls at hl ⊢
  have hl : lv_has ls 3 [(0, .ref (d0 0)), (1, .int p0), (2, .int p1)] := hl
  have ht := (xX5_whyNotThink_s S0 p0 p1).symm.trans ht
  refine lv_iload_n hx hb dX5_whyNotThink_0 rfl (lv_at hl 1 rfl) ?_
  refine lv_iload_n hx hb dX5_whyNotThink_1 rfl (lv_at hl 2 rfl) ?_
  refine lv_icmp_ne (tgt := 7) hx hb dX5_whyNotThink_2 (by decide) (fun c1 => ?_) (fun c1 => ?_)
  · have ht := it_n c1 ht
    refine lv_aload_n hx hb dX5_whyNotThink_7 rfl (lv_at hl 0 rfl) ?_
    refine va_get (D := D) (ci := 5) (v := .ref (d0 1)) (C := RX5) (T := TX5) (N := 11) hx hb hts hi5 hown hE.1 hP 0 rfl rfl 0 (by decide) hw0 (fun _ h9 => h9) rfl dX5_whyNotThink_8 ?_
    refine lv_iload_n hx hb dX5_whyNotThink_11 rfl (lv_at hl 2 rfl) ?_
    obtain ⟨g2, ht⟩ := it_g ht
    refine va_iald hx hb hE.1 hP 1 0 rfl rfl (q_in g2) dX5_whyNotThink_12 ?_
    refine lv_bipush (v := 99) hx hb dX5_whyNotThink_13 (by decide) ?_
    refine lv_icmp_lt (tgt := 22) hx hb dX5_whyNotThink_15 (by decide) (fun c3 => ?_) (fun c3 => ?_)
    · have ht := it_p c3 ht
      refine lv_iconst (v := 0) hx hb dX5_whyNotThink_22 (by decide) ?_
      have ht := Option.some.inj ht
      exact W.iret (v := 0) hx hb hr (fun t e1 hW => ⟨_, rfl, ⟨ht, trivial⟩, e1⟩) (fun q h => absurd h List.not_mem_nil) dX5_whyNotThink_23
    · have ht := it_n c3 ht
      refine lv_iconst (v := 2) hx hb dX5_whyNotThink_18 (by decide) ?_
      refine lv_goto (tgt := 23) hx hb dX5_whyNotThink_19 (by decide) ?_
      have ht := Option.some.inj ht
      exact W.iret (v := 2) hx hb hr (fun t e1 hW => ⟨_, rfl, ⟨ht, trivial⟩, e1⟩) (fun q h => absurd h List.not_mem_nil) dX5_whyNotThink_23
  · have ht := it_p c1 ht
    refine lv_iconst (v := 1) hx hb dX5_whyNotThink_5 (by decide) ?_
    have ht := Option.some.inj ht
    exact W.iret (v := 1) hx hb hr (fun t e1 hW => ⟨_, rfl, ⟨ht, trivial⟩, e1⟩) (fun q h => absurd h List.not_mem_nil) dX5_whyNotThink_6
abbrev rmX5_lies : Room := { frames := 0, cells := 0, slots := 0, locals := 0 }
set_option maxHeartbeats 4000000 in
set_option maxRecDepth 100000 in
theorem kX5_lies (l : Launch) (D : va_G) (cI cZ cO : ClassId) (d0 : Nat → Nat) (S0 : St) (p0 : Int32) (tg : Int32) (ht : xX5_lies S0 p0 = some tg) : Met l yX5_lies wsX5_lies rmX5_lies (q_PR D cI cZ cO [.ref (d0 0), .int p0] (wg5 cI cZ d0 S0)) (vp_Si (fun x => x = tg ∧ narrow .boolean (.int x) = .int x)) 0 0 (fun _ => False) := by
  refine Met.ofW (cc := cX5_lies) (maxL := 2) (ret := (some .boolean)) (by decide) rfl ?_
  intro p e s m args below meth c s₁ B hml hv
  obtain ⟨rfl, hE, hP⟩ := hv
  have hx := B.exec
  have hb := B.bytes
  have hr := B.returns
  have hts := atoms_spec (ws := wsX5_lies) B.pre
  have hown : s.vm.findClass RX5 = some m.cls := findClass_of_methodNamed B.named
  have hlocks := B.notSynchronized
  have hi5 : ∀ w ∈ u_ws RX5 TX5 11, w ∈ wsX5_lies := by decide +kernel
  have hw0 := hts (.fieldLink RX5 18 "HailNames$Plain" "cell" "[I") (by decide +kernel)
  have hl := lv_entry ([.ref (d0 0), .int p0]) (n := 2) (Nat.le_of_ble_eq_true rfl)
  rw [lg_entry_eq]
  generalize (lg_sl ([.ref (d0 0), .int p0]) ++ List.replicate (2 - (lg_sl ([.ref (d0 0), .int p0])).length) Slot.unset).toArray = ls at hl ⊢
  have hl : lv_has ls 2 [(0, .ref (d0 0)), (1, .int p0)] := hl
  have ht := (xX5_lies_s S0 p0).symm.trans ht
  refine lv_aload_n hx hb dX5_lies_0 rfl (lv_at hl 0 rfl) ?_
  refine va_get (D := D) (ci := 5) (v := .ref (d0 3)) (C := RX5) (T := TX5) (N := 11) hx hb hts hi5 hown hE.1 hP 0 rfl rfl 2 (by decide) hw0 (fun _ h9 => h9) rfl dX5_lies_1 ?_
  refine lv_iload_n hx hb dX5_lies_4 rfl (lv_at hl 1 rfl) ?_
  obtain ⟨g1, ht⟩ := it_g ht
  refine va_iald hx hb hE.1 hP 3 0 rfl rfl (q_in g1) dX5_lies_5 ?_
  refine lv_bipush (v := (-6)) hx hb dX5_lies_6 (by decide) ?_
  refine lv_icmp_eq (tgt := 15) hx hb dX5_lies_8 (by decide) (fun c2 => ?_) (fun c2 => ?_)
  · have ht := it_p c2 ht
    refine lv_iconst (v := 0) hx hb dX5_lies_15 (by decide) ?_
    have ht := Option.some.inj ht
    exact W.zret (v := 0) (ty := .boolean) hx hb hr (by decide +kernel) (fun t e1 hW => ⟨_, rfl, ⟨ht, (by decide +kernel)⟩, e1⟩) (fun q h => absurd h List.not_mem_nil) dX5_lies_16
  · have ht := it_n c2 ht
    refine lv_iconst (v := 1) hx hb dX5_lies_11 (by decide) ?_
    refine lv_goto (tgt := 16) hx hb dX5_lies_12 (by decide) ?_
    have ht := Option.some.inj ht
    exact W.zret (v := 1) (ty := .boolean) hx hb hr (by decide +kernel) (fun t e1 hW => ⟨_, rfl, ⟨ht, (by decide +kernel)⟩, e1⟩) (fun q h => absurd h List.not_mem_nil) dX5_lies_16
abbrev rmX5_isFree : Room := { frames := 0, cells := 0, slots := 0, locals := 0 }
set_option maxHeartbeats 4000000 in
set_option maxRecDepth 100000 in
theorem kX5_isFree (l : Launch) (D : va_G) (cI cZ cO : ClassId) (d0 : Nat → Nat) (S0 : St) (p0 : Int32) (tg : Int32) (ht : xX5_isFree S0 p0 = some tg) : Met l yX5_isFree wsX5_isFree rmX5_isFree (q_PR D cI cZ cO [.ref (d0 0), .int p0] (wg5 cI cZ d0 S0)) (vp_Si (fun x => x = tg ∧ narrow .boolean (.int x) = .int x)) 0 0 (fun _ => False) := by
  refine Met.ofW (cc := cX5_isFree) (maxL := 2) (ret := (some .boolean)) (by decide) rfl ?_
  intro p e s m args below meth c s₁ B hml hv
  obtain ⟨rfl, hE, hP⟩ := hv
  have hx := B.exec
  have hb := B.bytes
  have hr := B.returns
  have hts := atoms_spec (ws := wsX5_isFree) B.pre
  have hown : s.vm.findClass RX5 = some m.cls := findClass_of_methodNamed B.named
  have hlocks := B.notSynchronized
  have hi5 : ∀ w ∈ u_ws RX5 TX5 11, w ∈ wsX5_isFree := by decide +kernel
  have hw0 := hts (.fieldLink RX5 30 "HailNames$Plain" "stunned" "[I") (by decide +kernel)
  have hw1 := hts (.fieldLink RX5 36 "HailNames$Plain" "acted" "[Z") (by decide +kernel)
  have hl := lv_entry ([.ref (d0 0), .int p0]) (n := 2) (Nat.le_of_ble_eq_true rfl)
  rw [lg_entry_eq]
  generalize (lg_sl ([.ref (d0 0), .int p0]) ++ List.replicate (2 - (lg_sl ([.ref (d0 0), .int p0])).length) Slot.unset).toArray = ls at hl ⊢
  have hl : lv_has ls 2 [(0, .ref (d0 0)), (1, .int p0)] := hl
  have ht := (xX5_isFree_s S0 p0).symm.trans ht
  refine lv_aload_n hx hb dX5_isFree_0 rfl (lv_at hl 0 rfl) ?_
  refine va_get (D := D) (ci := 5) (v := .ref (d0 7)) (C := RX5) (T := TX5) (N := 11) hx hb hts hi5 hown hE.1 hP 0 rfl rfl 6 (by decide) hw0 (fun _ h9 => h9) rfl dX5_isFree_1 ?_
  refine lv_iload_n hx hb dX5_isFree_4 rfl (lv_at hl 1 rfl) ?_
  obtain ⟨g1, ht⟩ := it_g ht
  refine va_iald hx hb hE.1 hP 7 0 rfl rfl (q_in g1) dX5_isFree_5 ?_
  refine lv_if_ne (tgt := 22) hx hb dX5_isFree_6 (by decide) (fun c2 => ?_) (fun c2 => ?_)
  · have ht := it_n c2 ht
    refine lv_iconst (v := 0) hx hb dX5_isFree_22 (by decide) ?_
    have ht := Option.some.inj ht
    exact W.zret (v := 0) (ty := .boolean) hx hb hr (by decide +kernel) (fun t e1 hW => ⟨_, rfl, ⟨ht, (by decide +kernel)⟩, e1⟩) (fun q h => absurd h List.not_mem_nil) dX5_isFree_23
  · have ht := it_p c2 ht
    refine lv_aload_n hx hb dX5_isFree_9 rfl (lv_at hl 0 rfl) ?_
    refine va_get (D := D) (ci := 5) (v := .ref (d0 9)) (C := RX5) (T := TX5) (N := 11) hx hb hts hi5 hown hE.1 hP 0 rfl rfl 8 (by decide) hw1 (fun _ h9 => h9) rfl dX5_isFree_10 ?_
    refine lv_iload_n hx hb dX5_isFree_13 rfl (lv_at hl 1 rfl) ?_
    refine va_zald hx hb hE.1 hP 9 1 rfl rfl (q_in g1) dX5_isFree_14 ?_
    refine lv_if_ne (tgt := 22) hx hb dX5_isFree_15 (by decide) (fun c3 => ?_) (fun c3 => ?_)
    · have ht := it_n c3 ht
      refine lv_iconst (v := 0) hx hb dX5_isFree_22 (by decide) ?_
      have ht := Option.some.inj ht
      exact W.zret (v := 0) (ty := .boolean) hx hb hr (by decide +kernel) (fun t e1 hW => ⟨_, rfl, ⟨ht, (by decide +kernel)⟩, e1⟩) (fun q h => absurd h List.not_mem_nil) dX5_isFree_23
    · have ht := it_p c3 ht
      refine lv_iconst (v := 1) hx hb dX5_isFree_18 (by decide) ?_
      refine lv_goto (tgt := 23) hx hb dX5_isFree_19 (by decide) ?_
      have ht := Option.some.inj ht
      exact W.zret (v := 1) (ty := .boolean) hx hb hr (by decide +kernel) (fun t e1 hW => ⟨_, rfl, ⟨ht, (by decide +kernel)⟩, e1⟩) (fun q h => absurd h List.not_mem_nil) dX5_isFree_23
abbrev rmX5_whyNot : Room := { frames := 2, cells := 0, slots := 0, locals := 42 }
set_option maxHeartbeats 4000000 in
set_option maxRecDepth 100000 in
theorem kX5_whyNot (l : Launch) (D : va_G) (cI cZ cO : ClassId) (d0 : Nat → Nat) (d1 : Nat → Nat) (S0 : St) (S1 : St) (tg : Int32) (ht : xX5_whyNot S0 S1 = some tg) : Met l yX5_whyNot wsX5_whyNot rmX5_whyNot (q_PR D cI cZ cO [.ref (d0 0), .ref (d1 0)] (wg5 cI cZ d0 S0 ++ (wg0 cI cZ d1 S1))) (vp_Si (fun x => x = tg ∧ True)) 0 0 (fun _ => False) := by
  refine Met.ofW (cc := cX5_whyNot) (maxL := 2) (ret := (some .int)) (by decide) rfl ?_
  intro p e s m args below meth c s₁ B hml hv
  obtain ⟨rfl, hE, hP⟩ := hv
  have hx := B.exec
  have hb := B.bytes
  have hr := B.returns
  have hts := atoms_spec (ws := wsX5_whyNot) B.pre
  have hown : s.vm.findClass RX5 = some m.cls := findClass_of_methodNamed B.named
  have hlocks := B.notSynchronized
  have hi0 : ∀ w ∈ u_ws RX0 TX0 3, w ∈ wsX5_whyNot := by decide +kernel
  have hi5 : ∀ w ∈ u_ws RX5 TX5 11, w ∈ wsX5_whyNot := by decide +kernel
  have hw0 := hts (.fieldLink RX5 80 "HailNames$Act" "kind" "I") (by decide +kernel)
  have hw1 := hts (.fieldLink RX5 85 "HailNames$Act" "who" "I") (by decide +kernel)
  have hw2 := hts (.fieldLink RX5 88 "HailNames$Act" "whom" "I") (by decide +kernel)
  have hw3 := hts (.fieldLink RX5 9 "HailNames$Plain" "count" "[I") (by decide +kernel)
  have hw4 := hts (.fieldLink RX5 27 "HailNames$Plain" "place" "[I") (by decide +kernel)
  have hw5 := hts (.initialized RX8) (by decide +kernel)
  have hw6 := hts (.static yX8_isCell) (by decide +kernel)
  have hw7 := hts (.fieldLink RX5 18 "HailNames$Plain" "cell" "[I") (by decide +kernel)
  have hw8 := hts (.fieldLink RX5 44 "HailNames$Plain" "second" "I") (by decide +kernel)
  have hl := lv_entry ([.ref (d0 0), .ref (d1 0)]) (n := 2) (Nat.le_of_ble_eq_true rfl)
  rw [lg_entry_eq]
  generalize (lg_sl ([.ref (d0 0), .ref (d1 0)]) ++ List.replicate (2 - (lg_sl ([.ref (d0 0), .ref (d1 0)])).length) Slot.unset).toArray = ls at hl ⊢
  have hl : lv_has ls 2 [(0, .ref (d0 0)), (1, .ref (d1 0))] := hl
  have ht := (xX5_whyNot_s S0 S1).symm.trans ht
  refine lv_aload_n hx hb dX5_whyNot_0 rfl (lv_at hl 1 rfl) ?_
  refine va_get (D := D) (ci := 0) (v := .int (S1 0 0)) (C := RX0) (T := TX0) (N := 3) hx hb hts hi0 hown hE.1 hP 10 rfl rfl 0 (by decide) hw0 (fun _ h9 => h9) rfl dX5_whyNot_1 ?_
  by_cases c1 : S1 0 0 = 0
  · have ht := it_p c1 ht
    refine lv_tableIn (tgt := 36) hx hb dX5_whyNot_4 (by rw [c1]; decide) (by rw [c1]; decide) (by rw [c1]; rfl) (by decide) ?_
    refine lv_aload_n hx hb dX5_whyNot_36 rfl (lv_at hl 0 rfl) ?_
    refine lv_aload_n hx hb dX5_whyNot_37 rfl (lv_at hl 1 rfl) ?_
    refine va_get (D := D) (ci := 0) (v := .int (S1 1 0)) (C := RX0) (T := TX0) (N := 3) hx hb hts hi0 hown hE.1 hP 10 rfl rfl 1 (by decide) hw1 (fun _ h9 => h9) rfl dX5_whyNot_38 ?_
    refine lv_aload_n hx hb dX5_whyNot_41 rfl (lv_at hl 1 rfl) ?_
    refine va_get (D := D) (ci := 0) (v := .int (S1 2 0)) (C := RX0) (T := TX0) (N := 3) hx hb hts hi0 hown hE.1 hP 10 rfl rfl 2 (by decide) hw2 (fun _ h9 => h9) rfl dX5_whyNot_42 ?_
    obtain ⟨q2, hq2, ht⟩ := it_b ht
    have hPc : va_P D vwCl (wg5 cI cZ d0 S0) s.heap := hP.sub [0, 1, 2, 3, 4, 5, 6, 7, 8, 9] rfl
    refine q_ri (va_runV (As := [.int (S1 1 0), .int (S1 2 0)]) (rest := []) ⟨hx, hb, hml, hown, hts⟩ (kX5_whyNotThink l D cI cZ cO d0 S0 (S1 1 0) (S1 2 0) q2 hq2) (cwV 2 hts gX5_whyNot_X5_whyNotThink rfl rfl rfl (by decide +kernel) ⟨Nat.le_of_ble_eq_true rfl, Nat.le_of_ble_eq_true rfl⟩) (q_rV (As := [.int (S1 1 0), .int (S1 2 0)]) hE hPc (q0 := 0) (ci := 5) rfl rfl) rfl rfl hl.1 rfl (lv_room (Nat.le_of_ble_eq_true rfl)) dX5_whyNot_45 ⟨Nat.le_of_ble_eq_true rfl, Nat.le_of_ble_eq_true rfl⟩) (fun b3 => ?_)
    have ht := Option.some.inj ht
    exact W.iret (v := q2) hx hb hr (fun t e1 hW => ⟨_, rfl, ⟨ht, trivial⟩, e1⟩) (fun q h => absurd h List.not_mem_nil) dX5_whyNot_48
  have ht := it_n c1 ht
  by_cases c4 : S1 0 0 = 1
  · have ht := it_p c4 ht
    refine lv_tableIn (tgt := 49) hx hb dX5_whyNot_4 (by rw [c4]; decide) (by rw [c4]; decide) (by rw [c4]; rfl) (by decide) ?_
    refine lv_aload_n hx hb dX5_whyNot_49 rfl (lv_at hl 0 rfl) ?_
    refine va_get (D := D) (ci := 5) (v := .ref (d0 1)) (C := RX5) (T := TX5) (N := 11) hx hb hts hi5 hown hE.1 hP 0 rfl rfl 0 (by decide) hw3 (fun _ h9 => h9) rfl dX5_whyNot_50 ?_
    refine lv_aload_n hx hb dX5_whyNot_53 rfl (lv_at hl 1 rfl) ?_
    refine va_get (D := D) (ci := 0) (v := .int (S1 1 0)) (C := RX0) (T := TX0) (N := 3) hx hb hts hi0 hown hE.1 hP 10 rfl rfl 1 (by decide) hw1 (fun _ h9 => h9) rfl dX5_whyNot_54 ?_
    obtain ⟨g5, ht⟩ := it_g ht
    refine va_iald hx hb hE.1 hP 1 0 rfl rfl (q_in g5) dX5_whyNot_57 ?_
    refine lv_if_ne (tgt := 65) hx hb dX5_whyNot_58 (by decide) (fun c6 => ?_) (fun c6 => ?_)
    · have ht := it_n c6 ht
      refine lv_aload_n hx hb dX5_whyNot_65 rfl (lv_at hl 0 rfl) ?_
      refine lv_aload_n hx hb dX5_whyNot_66 rfl (lv_at hl 1 rfl) ?_
      refine va_get (D := D) (ci := 0) (v := .int (S1 1 0)) (C := RX0) (T := TX0) (N := 3) hx hb hts hi0 hown hE.1 hP 10 rfl rfl 1 (by decide) hw1 (fun _ h9 => h9) rfl dX5_whyNot_67 ?_
      obtain ⟨q7, hq7, ht⟩ := it_b ht
      have hPc : va_P D vwCl (wg5 cI cZ d0 S0) s.heap := hP.sub [0, 1, 2, 3, 4, 5, 6, 7, 8, 9] rfl
      refine q_ri (va_runV (As := [.int (S1 1 0)]) (rest := []) ⟨hx, hb, hml, hown, hts⟩ (kX5_lies l D cI cZ cO d0 S0 (S1 1 0) q7 hq7) (cwV 1 hts gX5_whyNot_X5_lies rfl rfl rfl (by decide +kernel) ⟨Nat.le_of_ble_eq_true rfl, Nat.le_of_ble_eq_true rfl⟩) (q_rV (As := [.int (S1 1 0)]) hE hPc (q0 := 0) (ci := 5) rfl rfl) rfl rfl hl.1 rfl (lv_room (Nat.le_of_ble_eq_true rfl)) dX5_whyNot_70 ⟨Nat.le_of_ble_eq_true rfl, Nat.le_of_ble_eq_true rfl⟩) (fun b8 => ?_)
      refine lv_if_eq (tgt := 80) hx hb dX5_whyNot_73 (by decide) (fun c9 => ?_) (fun c9 => ?_)
      · have ht := it_p c9 ht
        refine lv_iconst (v := 0) hx hb dX5_whyNot_80 (by decide) ?_
        have ht := Option.some.inj ht
        exact W.iret (v := 0) hx hb hr (fun t e1 hW => ⟨_, rfl, ⟨ht, trivial⟩, e1⟩) (fun q h => absurd h List.not_mem_nil) dX5_whyNot_81
      · have ht := it_n c9 ht
        refine lv_iconst (v := 4) hx hb dX5_whyNot_76 (by decide) ?_
        refine lv_goto (tgt := 81) hx hb dX5_whyNot_77 (by decide) ?_
        have ht := Option.some.inj ht
        exact W.iret (v := 4) hx hb hr (fun t e1 hW => ⟨_, rfl, ⟨ht, trivial⟩, e1⟩) (fun q h => absurd h List.not_mem_nil) dX5_whyNot_81
    · have ht := it_p c6 ht
      refine lv_iconst (v := 3) hx hb dX5_whyNot_61 (by decide) ?_
      refine lv_goto (tgt := 81) hx hb dX5_whyNot_62 (by decide) ?_
      have ht := Option.some.inj ht
      exact W.iret (v := 3) hx hb hr (fun t e1 hW => ⟨_, rfl, ⟨ht, trivial⟩, e1⟩) (fun q h => absurd h List.not_mem_nil) dX5_whyNot_81
  have ht := it_n c4 ht
  by_cases c10 : S1 0 0 = 2
  · have ht := it_p c10 ht
    refine lv_tableIn (tgt := 82) hx hb dX5_whyNot_4 (by rw [c10]; decide) (by rw [c10]; decide) (by rw [c10]; rfl) (by decide) ?_
    refine lv_aload_n hx hb dX5_whyNot_82 rfl (lv_at hl 0 rfl) ?_
    refine lv_aload_n hx hb dX5_whyNot_83 rfl (lv_at hl 1 rfl) ?_
    refine va_get (D := D) (ci := 0) (v := .int (S1 1 0)) (C := RX0) (T := TX0) (N := 3) hx hb hts hi0 hown hE.1 hP 10 rfl rfl 1 (by decide) hw1 (fun _ h9 => h9) rfl dX5_whyNot_84 ?_
    obtain ⟨q11, hq11, ht⟩ := it_b ht
    have hPc : va_P D vwCl (wg5 cI cZ d0 S0) s.heap := hP.sub [0, 1, 2, 3, 4, 5, 6, 7, 8, 9] rfl
    refine q_ri (va_runV (As := [.int (S1 1 0)]) (rest := []) ⟨hx, hb, hml, hown, hts⟩ (kX5_isFree l D cI cZ cO d0 S0 (S1 1 0) q11 hq11) (cwV 1 hts gX5_whyNot_X5_isFree rfl rfl rfl (by decide +kernel) ⟨Nat.le_of_ble_eq_true rfl, Nat.le_of_ble_eq_true rfl⟩) (q_rV (As := [.int (S1 1 0)]) hE hPc (q0 := 0) (ci := 5) rfl rfl) rfl rfl hl.1 rfl (lv_room (Nat.le_of_ble_eq_true rfl)) dX5_whyNot_87 ⟨Nat.le_of_ble_eq_true rfl, Nat.le_of_ble_eq_true rfl⟩) (fun b12 => ?_)
    refine lv_if_ne (tgt := 97) hx hb dX5_whyNot_90 (by decide) (fun c13 => ?_) (fun c13 => ?_)
    · have ht := it_n c13 ht
      refine lv_aload_n hx hb dX5_whyNot_97 rfl (lv_at hl 0 rfl) ?_
      refine va_get (D := D) (ci := 5) (v := .ref (d0 6)) (C := RX5) (T := TX5) (N := 11) hx hb hts hi5 hown hE.1 hP 0 rfl rfl 5 (by decide) hw4 (fun _ h9 => h9) rfl dX5_whyNot_98 ?_
      refine lv_aload_n hx hb dX5_whyNot_101 rfl (lv_at hl 1 rfl) ?_
      refine va_get (D := D) (ci := 0) (v := .int (S1 1 0)) (C := RX0) (T := TX0) (N := 3) hx hb hts hi0 hown hE.1 hP 10 rfl rfl 1 (by decide) hw1 (fun _ h9 => h9) rfl dX5_whyNot_102 ?_
      obtain ⟨g14, ht⟩ := it_g ht
      refine va_iald hx hb hE.1 hP 6 0 rfl rfl (q_in g14) dX5_whyNot_105 ?_
      refine lv_aload_n hx hb dX5_whyNot_106 rfl (lv_at hl 1 rfl) ?_
      refine va_get (D := D) (ci := 0) (v := .int (S1 2 0)) (C := RX0) (T := TX0) (N := 3) hx hb hts hi0 hown hE.1 hP 10 rfl rfl 2 (by decide) hw2 (fun _ h9 => h9) rfl dX5_whyNot_107 ?_
      refine lv_iadd hx hb dX5_whyNot_110 ?_
      refine q_ri (va_runSN (As := [.int ((S0 5 (S1 1 0).toNatClampNeg) + (S1 2 0))]) (rest := []) ⟨hx, hb, hml, hown, hts⟩ (kX8_isCell l D cI cZ cO ((S0 5 (S1 1 0).toNatClampNeg) + (S1 2 0))) ⟨va_cnB 1 hts gX5_whyNot_X8_isCell_n94 rfl rfl rfl hE.2.2.2.2.2.2.2.2.2.2.2.2.2.2.2.1 hw5 (by decide +kernel) ⟨Nat.le_of_ble_eq_true rfl, Nat.le_of_ble_eq_true rfl⟩, hw6, trivial⟩ (q_rS hE q_nil) rfl rfl hl.1 rfl (lv_room (Nat.le_of_ble_eq_true rfl)) dX5_whyNot_111 ⟨Nat.le_of_ble_eq_true rfl, Nat.le_of_ble_eq_true rfl⟩) (fun b15 => ?_)
      refine lv_if_ne (tgt := 122) hx hb dX5_whyNot_114 (by decide) (fun c16 => ?_) (fun c16 => ?_)
      · have ht := it_n c16 ht
        refine lv_iconst (v := 0) hx hb dX5_whyNot_122 (by decide) ?_
        have ht := Option.some.inj ht
        exact W.iret (v := 0) hx hb hr (fun t e1 hW => ⟨_, rfl, ⟨ht, trivial⟩, e1⟩) (fun q h => absurd h List.not_mem_nil) dX5_whyNot_123
      · have ht := it_p c16 ht
        refine lv_bipush (v := 6) hx hb dX5_whyNot_117 (by decide) ?_
        refine lv_goto (tgt := 123) hx hb dX5_whyNot_119 (by decide) ?_
        have ht := Option.some.inj ht
        exact W.iret (v := 6) hx hb hr (fun t e1 hW => ⟨_, rfl, ⟨ht, trivial⟩, e1⟩) (fun q h => absurd h List.not_mem_nil) dX5_whyNot_123
    · have ht := it_p c13 ht
      refine lv_iconst (v := 5) hx hb dX5_whyNot_93 (by decide) ?_
      refine lv_goto (tgt := 123) hx hb dX5_whyNot_94 (by decide) ?_
      have ht := Option.some.inj ht
      exact W.iret (v := 5) hx hb hr (fun t e1 hW => ⟨_, rfl, ⟨ht, trivial⟩, e1⟩) (fun q h => absurd h List.not_mem_nil) dX5_whyNot_123
  have ht := it_n c10 ht
  by_cases c17 : S1 0 0 = 3
  · have ht := it_p c17 ht
    refine lv_tableIn (tgt := 124) hx hb dX5_whyNot_4 (by rw [c17]; decide) (by rw [c17]; decide) (by rw [c17]; rfl) (by decide) ?_
    refine lv_aload_n hx hb dX5_whyNot_124 rfl (lv_at hl 0 rfl) ?_
    refine lv_aload_n hx hb dX5_whyNot_125 rfl (lv_at hl 1 rfl) ?_
    refine va_get (D := D) (ci := 0) (v := .int (S1 1 0)) (C := RX0) (T := TX0) (N := 3) hx hb hts hi0 hown hE.1 hP 10 rfl rfl 1 (by decide) hw1 (fun _ h9 => h9) rfl dX5_whyNot_126 ?_
    obtain ⟨q18, hq18, ht⟩ := it_b ht
    have hPc : va_P D vwCl (wg5 cI cZ d0 S0) s.heap := hP.sub [0, 1, 2, 3, 4, 5, 6, 7, 8, 9] rfl
    refine q_ri (va_runV (As := [.int (S1 1 0)]) (rest := []) ⟨hx, hb, hml, hown, hts⟩ (kX5_isFree l D cI cZ cO d0 S0 (S1 1 0) q18 hq18) (cwV 1 hts gX5_whyNot_X5_isFree rfl rfl rfl (by decide +kernel) ⟨Nat.le_of_ble_eq_true rfl, Nat.le_of_ble_eq_true rfl⟩) (q_rV (As := [.int (S1 1 0)]) hE hPc (q0 := 0) (ci := 5) rfl rfl) rfl rfl hl.1 rfl (lv_room (Nat.le_of_ble_eq_true rfl)) dX5_whyNot_129 ⟨Nat.le_of_ble_eq_true rfl, Nat.le_of_ble_eq_true rfl⟩) (fun b19 => ?_)
    refine lv_if_ne (tgt := 139) hx hb dX5_whyNot_132 (by decide) (fun c20 => ?_) (fun c20 => ?_)
    · have ht := it_n c20 ht
      refine lv_aload_n hx hb dX5_whyNot_139 rfl (lv_at hl 0 rfl) ?_
      refine va_get (D := D) (ci := 5) (v := .ref (d0 3)) (C := RX5) (T := TX5) (N := 11) hx hb hts hi5 hown hE.1 hP 0 rfl rfl 2 (by decide) hw7 (fun _ h9 => h9) rfl dX5_whyNot_140 ?_
      refine lv_aload_n hx hb dX5_whyNot_143 rfl (lv_at hl 1 rfl) ?_
      refine va_get (D := D) (ci := 0) (v := .int (S1 2 0)) (C := RX0) (T := TX0) (N := 3) hx hb hts hi0 hown hE.1 hP 10 rfl rfl 2 (by decide) hw2 (fun _ h9 => h9) rfl dX5_whyNot_144 ?_
      obtain ⟨g21, ht⟩ := it_g ht
      refine va_iald hx hb hE.1 hP 3 0 rfl rfl (q_in g21) dX5_whyNot_147 ?_
      refine lv_aload_n hx hb dX5_whyNot_148 rfl (lv_at hl 0 rfl) ?_
      refine va_get (D := D) (ci := 5) (v := .ref (d0 6)) (C := RX5) (T := TX5) (N := 11) hx hb hts hi5 hown hE.1 hP 0 rfl rfl 5 (by decide) hw4 (fun _ h9 => h9) rfl dX5_whyNot_149 ?_
      refine lv_aload_n hx hb dX5_whyNot_152 rfl (lv_at hl 1 rfl) ?_
      refine va_get (D := D) (ci := 0) (v := .int (S1 1 0)) (C := RX0) (T := TX0) (N := 3) hx hb hts hi0 hown hE.1 hP 10 rfl rfl 1 (by decide) hw1 (fun _ h9 => h9) rfl dX5_whyNot_153 ?_
      obtain ⟨g22, ht⟩ := it_g ht
      refine va_iald hx hb hE.1 hP 6 0 rfl rfl (q_in g22) dX5_whyNot_156 ?_
      refine lv_icmp_eq (tgt := 165) hx hb dX5_whyNot_157 (by decide) (fun c23 => ?_) (fun c23 => ?_)
      · have ht := it_p c23 ht
        refine lv_iconst (v := 0) hx hb dX5_whyNot_165 (by decide) ?_
        have ht := Option.some.inj ht
        exact W.iret (v := 0) hx hb hr (fun t e1 hW => ⟨_, rfl, ⟨ht, trivial⟩, e1⟩) (fun q h => absurd h List.not_mem_nil) dX5_whyNot_166
      · have ht := it_n c23 ht
        refine lv_bipush (v := 7) hx hb dX5_whyNot_160 (by decide) ?_
        refine lv_goto (tgt := 166) hx hb dX5_whyNot_162 (by decide) ?_
        have ht := Option.some.inj ht
        exact W.iret (v := 7) hx hb hr (fun t e1 hW => ⟨_, rfl, ⟨ht, trivial⟩, e1⟩) (fun q h => absurd h List.not_mem_nil) dX5_whyNot_166
    · have ht := it_p c20 ht
      refine lv_iconst (v := 5) hx hb dX5_whyNot_135 (by decide) ?_
      refine lv_goto (tgt := 166) hx hb dX5_whyNot_136 (by decide) ?_
      have ht := Option.some.inj ht
      exact W.iret (v := 5) hx hb hr (fun t e1 hW => ⟨_, rfl, ⟨ht, trivial⟩, e1⟩) (fun q h => absurd h List.not_mem_nil) dX5_whyNot_166
  have ht := it_n c17 ht
  refine lv_tableOut (tgt := 167) hx hb dX5_whyNot_4 (by have n0 := lv_neT c1 (show (0 : Int32).toInt = 0 by decide); have n1 := lv_neT c4 (show (1 : Int32).toInt = 1 by decide); have n2 := lv_neT c10 (show (2 : Int32).toInt = 2 by decide); have n3 := lv_neT c17 (show (3 : Int32).toInt = 3 by decide); omega) (by decide) ?_
  refine lv_aload_n hx hb dX5_whyNot_167 rfl (lv_at hl 0 rfl) ?_
  refine va_get (D := D) (ci := 5) (v := .int (S0 10 0)) (C := RX5) (T := TX5) (N := 11) hx hb hts hi5 hown hE.1 hP 0 rfl rfl 10 (by decide) hw8 (fun _ h9 => h9) rfl dX5_whyNot_168 ?_
  refine lv_bipush (v := 99) hx hb dX5_whyNot_171 (by decide) ?_
  refine lv_icmp_lt (tgt := 181) hx hb dX5_whyNot_173 (by decide) (fun c24 => ?_) (fun c24 => ?_)
  · have ht := it_p c24 ht
    refine lv_iconst (v := 0) hx hb dX5_whyNot_181 (by decide) ?_
    have ht := Option.some.inj ht
    exact W.iret (v := 0) hx hb hr (fun t e1 hW => ⟨_, rfl, ⟨ht, trivial⟩, e1⟩) (fun q h => absurd h List.not_mem_nil) dX5_whyNot_182
  · have ht := it_n c24 ht
    refine lv_bipush (v := 8) hx hb dX5_whyNot_176 (by decide) ?_
    refine lv_goto (tgt := 182) hx hb dX5_whyNot_178 (by decide) ?_
    have ht := Option.some.inj ht
    exact W.iret (v := 8) hx hb hr (fun t e1 hW => ⟨_, rfl, ⟨ht, trivial⟩, e1⟩) (fun q h => absurd h List.not_mem_nil) dX5_whyNot_182
abbrev rmX5_put : Room := { frames := 0, cells := 0, slots := 0, locals := 0 }
set_option maxHeartbeats 4000000 in
set_option maxRecDepth 100000 in
theorem kX5_put (l : Launch) (D : va_G) (cI cZ cO : ClassId) (d0 : Nat → Nat) (sz : Nat) (S0 : St) (p0 : Int32) (p1 : Int32) (p2 : Int32) (p3 : Int32) (tg : St) (ht : xX5_put p0 p1 p2 p3 S0 = some tg) : Met l yX5_put wsX5_put rmX5_put (q_PM D cI cZ cO [.ref (d0 0), .int p0, .int p1, .int p2, .int p3] sz (wg5 cI cZ d0 S0)) (va_Qv (fun _ : Unit => True) (fun _ t => va_P D vwCl (wg5 cI cZ d0 tg) t.heap) (va_A (wg5 cI cZ d0 S0) sz)) 0 0 (va_A (wg5 cI cZ d0 S0) sz) := by
  refine Met.ofW (cc := cX5_put) (maxL := 5) (ret := none) (by decide) rfl ?_
  intro p e s m args below meth c s₁ B hml hv
  obtain ⟨rfl, hsz, hE, hP, hD0⟩ := hv
  have hx := B.exec
  have hb := B.bytes
  have hr := B.returns
  have hts := atoms_spec (ws := wsX5_put) B.pre
  have hown : s.vm.findClass RX5 = some m.cls := findClass_of_methodNamed B.named
  have hlocks := B.notSynchronized
  have hi5 : ∀ w ∈ u_ws RX5 TX5 11, w ∈ wsX5_put := by decide +kernel
  have hw0 := hts (.fieldLink RX5 18 "HailNames$Plain" "cell" "[I") (by decide +kernel)
  have hw1 := hts (.fieldLink RX5 21 "HailNames$Plain" "size" "[I") (by decide +kernel)
  have hw2 := hts (.fieldLink RX5 24 "HailNames$Plain" "figure" "[I") (by decide +kernel)
  subst hsz
  have hD1 := hD0.self (sz := s.heap.size)
  generalize hAe : va_A (wg5 cI cZ d0 S0) s.heap.size = A at hD1 ⊢
  have hA : ∀ q : Nat, s.heap.size ≤ q → A q := fun q h => by rw [← hAe]; exact Or.inr h
  have hS : va_S A s.heap s.heap [] := va_S.rf
  have hD : ∀ (S0 : St), va_D A (wg5 cI cZ d0 S0) := fun S0 => q_D hD1 rfl
  have hl := lv_entry ([.ref (d0 0), .int p0, .int p1, .int p2, .int p3]) (n := 5) (Nat.le_of_ble_eq_true rfl)
  rw [lg_entry_eq]
  generalize (lg_sl ([.ref (d0 0), .int p0, .int p1, .int p2, .int p3]) ++ List.replicate (5 - (lg_sl ([.ref (d0 0), .int p0, .int p1, .int p2, .int p3])).length) Slot.unset).toArray = ls at hl ⊢
  have hl : lv_has ls 5 [(0, .ref (d0 0)), (1, .int p0), (2, .int p1), (3, .int p2), (4, .int p3)] := hl
  have ht := (xX5_put_s p0 p1 p2 p3 S0).symm.trans ht
  refine lv_aload_n hx hb dX5_put_0 rfl (lv_at hl 0 rfl) ?_
  refine va_get (D := D) (ci := 5) (v := .ref (d0 3)) (C := RX5) (T := TX5) (N := 11) hx hb hts hi5 hown hE.1 hP 0 rfl rfl 2 (by decide) hw0 (fun _ h9 => h9) rfl dX5_put_1 ?_
  refine lv_iload_n hx hb dX5_put_4 rfl (lv_at hl 1 rfl) ?_
  refine lv_iload_n hx hb dX5_put_5 rfl (lv_at hl 2 rfl) ?_
  obtain ⟨g1, ht⟩ := it_g ht
  refine va_iast hx hb hE.1 hP (hD _) hS 3 0 rfl rfl (q_in g1) dX5_put_6 (fun H locs hP _ hS => ?_)
  have hP : va_P D vwCl (wg5 cI cZ d0 (q_su S0 2 p0.toNatClampNeg p1)) H := hP
  obtain ⟨T2, eT2⟩ : ∃ z : St, z = q_su S0 2 p0.toNatClampNeg p1 := ⟨_, rfl⟩
  rw [← eT2] at hP
  have ht := it_l ht eT2
  refine lv_aload_n hx hb dX5_put_7 rfl (lv_at hl 0 rfl) ?_
  refine va_get (D := D) (ci := 5) (v := .ref (d0 4)) (C := RX5) (T := TX5) (N := 11) hx hb hts hi5 hown hE.1 hP 0 rfl rfl 3 (by decide) hw1 (fun _ h9 => h9) rfl dX5_put_8 ?_
  refine lv_iload_n hx hb dX5_put_11 rfl (lv_at hl 1 rfl) ?_
  refine lv_iload_n hx hb dX5_put_12 rfl (lv_at hl 3 rfl) ?_
  refine va_iast hx hb hE.1 hP (hD _) hS 4 0 rfl rfl (q_in g1) dX5_put_13 (fun H locs hP _ hS => ?_)
  have hP : va_P D vwCl (wg5 cI cZ d0 (q_su T2 3 p0.toNatClampNeg p2)) H := hP
  obtain ⟨T3, eT3⟩ : ∃ z : St, z = q_su T2 3 p0.toNatClampNeg p2 := ⟨_, rfl⟩
  rw [← eT3] at hP
  have ht := it_l ht eT3
  refine lv_aload_n hx hb dX5_put_14 rfl (lv_at hl 0 rfl) ?_
  refine va_get (D := D) (ci := 5) (v := .ref (d0 5)) (C := RX5) (T := TX5) (N := 11) hx hb hts hi5 hown hE.1 hP 0 rfl rfl 4 (by decide) hw2 (fun _ h9 => h9) rfl dX5_put_15 ?_
  refine lv_iload_n hx hb dX5_put_18 rfl (lv_at hl 1 rfl) ?_
  refine lv_iload hx hb dX5_put_19 (lv_at hl 4 rfl) ?_
  refine va_iast hx hb hE.1 hP (hD _) hS 5 0 rfl rfl (q_in g1) dX5_put_21 (fun H locs hP _ hS => ?_)
  have hP : va_P D vwCl (wg5 cI cZ d0 (q_su T3 4 p0.toNatClampNeg p3)) H := hP
  obtain ⟨T4, eT4⟩ : ∃ z : St, z = q_su T3 4 p0.toNatClampNeg p3 := ⟨_, rfl⟩
  rw [← eT4] at hP
  have ht := it_l ht eT4
  obtain rfl := Option.some.inj ht
  exact W.vret hx hb hr (fun t e1 hW => ⟨⟨(), rfl, trivial, q_at e1 hP⟩, hS.F e1⟩) hS.2.2 dX5_put_22
abbrev rmX5_dropStone : Room := { frames := 1, cells := 0, slots := 0, locals := 24 }
set_option maxHeartbeats 4000000 in
set_option maxRecDepth 100000 in
theorem kX5_dropStone (l : Launch) (D : va_G) (cI cZ cO : ClassId) (d0 : Nat → Nat) (sz : Nat) (S0 : St) (p0 : Int32) (p1 : Int32) (tg : St) (ht : xX5_dropStone p0 p1 S0 = some tg) : Met l yX5_dropStone wsX5_dropStone rmX5_dropStone (q_PM D cI cZ cO [.ref (d0 0), .int p0, .int p1] sz (wg5 cI cZ d0 S0)) (va_Qv (fun _ : Unit => True) (fun _ t => va_P D vwCl (wg5 cI cZ d0 tg) t.heap) (va_A (wg5 cI cZ d0 S0) sz)) 0 0 (va_A (wg5 cI cZ d0 S0) sz) := by
  refine Met.ofW (cc := cX5_dropStone) (maxL := 4) (ret := none) (by decide) rfl ?_
  intro p e s m args below meth c s₁ B hml hv
  obtain ⟨rfl, hsz, hE, hP, hD0⟩ := hv
  have hx := B.exec
  have hb := B.bytes
  have hr := B.returns
  have hts := atoms_spec (ws := wsX5_dropStone) B.pre
  have hown : s.vm.findClass RX5 = some m.cls := findClass_of_methodNamed B.named
  have hlocks := B.notSynchronized
  have hi5 : ∀ w ∈ u_ws RX5 TX5 11, w ∈ wsX5_dropStone := by decide +kernel
  have hw0 := hts (.fieldLink RX5 9 "HailNames$Plain" "count" "[I") (by decide +kernel)
  have hw1 := hts (.fieldLink RX5 27 "HailNames$Plain" "place" "[I") (by decide +kernel)
  have hw2 := hts (.fieldLink RX5 30 "HailNames$Plain" "stunned" "[I") (by decide +kernel)
  have hw3 := hts (.fieldLink RX5 24 "HailNames$Plain" "figure" "[I") (by decide +kernel)
  have hw4 := hts (.methodLink RX5 77 Lib.Math.min.name) (by decide +kernel)
  have hw5 := hts (.static Lib.Math.min.name) (by decide +kernel)
  have hw6 := hts (.initialized "java/lang/Math") (by decide +kernel)
  have hw7 := hts (.code Lib.Math.min.name Lib.Math.min.code 2 (some .int)) (by decide +kernel)
  subst hsz
  have hD1 := hD0.self (sz := s.heap.size)
  generalize hAe : va_A (wg5 cI cZ d0 S0) s.heap.size = A at hD1 ⊢
  have hA : ∀ q : Nat, s.heap.size ≤ q → A q := fun q h => by rw [← hAe]; exact Or.inr h
  have hS : va_S A s.heap s.heap [] := va_S.rf
  have hD : ∀ (S0 : St), va_D A (wg5 cI cZ d0 S0) := fun S0 => q_D hD1 rfl
  have hl := lv_entry ([.ref (d0 0), .int p0, .int p1]) (n := 4) (Nat.le_of_ble_eq_true rfl)
  rw [lg_entry_eq]
  generalize (lg_sl ([.ref (d0 0), .int p0, .int p1]) ++ List.replicate (4 - (lg_sl ([.ref (d0 0), .int p0, .int p1])).length) Slot.unset).toArray = ls at hl ⊢
  have hl : lv_has ls 4 [(0, .ref (d0 0)), (1, .int p0), (2, .int p1)] := hl
  have ht := (xX5_dropStone_s p0 p1 S0).symm.trans ht
  obtain ⟨Q, hQ⟩ : ∃ Q, Q = MQ below (va_Qv (fun _ : Unit => True) (fun _ t => va_P D vwCl (wg5 cI cZ d0 tg) t.heap) A) ([.ref (d0 0), .int p0, .int p1] : List Value).toArray s 0 0 A := ⟨_, rfl⟩
  rw [← hQ]
  have L27 : ∀ (n : Nat) (x3 : Int32) (S0 : St) (H : Heap) (locs : List Loc) (_ : va_P D vwCl (wg5 cI cZ d0 S0) H) (_ : va_S A s.heap H locs) (ls : Array Slot) (_ : lv_has ls 4 [(0, .ref (d0 0)), (1, .int p0), (2, .int p1), (3, .int x3)]) (_ : xX5_dropStone_h27 p0 p1 n x3 S0 = some tg), W p l e (headSpec wsX5_dropStone rmX5_dropStone).room s m ([.ref (d0 0), .int p0, .int p1] : List Value).toArray below meth c H locs 0 0 Q (F0 m 27 ls []) := by
    intro n
    induction n with
    | zero =>
      intro x3 S0 H locs hP hS ls hl ht
      exact it_z ht
    | succ n27 ih27 =>
      intro x3 S0 H locs hP hS ls hl ht
      have ht := (xX5_dropStone_h27_s p0 p1 n27 x3 S0).symm.trans ht
      refine lv_iload_n hx hb dX5_dropStone_27 rfl (lv_at hl 3 rfl) ?_
      refine lv_iconst (v := 4) hx hb dX5_dropStone_28 (by decide) ?_
      refine lv_icmp_ge (tgt := 75) hx hb dX5_dropStone_29 (by decide) (fun c4 => ?_) (fun c4 => ?_)
      · have ht := it_p c4 ht
        subst hQ
        obtain rfl := Option.some.inj ht
        exact W.vret hx hb hr (fun t e1 hW => ⟨⟨(), rfl, trivial, q_at e1 hP⟩, hS.F e1⟩) hS.2.2 dX5_dropStone_75
      · have ht := it_n c4 ht
        refine lv_aload_n hx hb dX5_dropStone_32 rfl (lv_at hl 0 rfl) ?_
        refine va_get (D := D) (ci := 5) (v := .ref (d0 6)) (C := RX5) (T := TX5) (N := 11) hx hb hts hi5 hown hE.1 hP 0 rfl rfl 5 (by decide) hw1 (fun _ h9 => h9) rfl dX5_dropStone_33 ?_
        refine lv_iload_n hx hb dX5_dropStone_36 rfl (lv_at hl 3 rfl) ?_
        obtain ⟨g5, ht⟩ := it_g ht
        refine va_iald hx hb hE.1 hP 6 0 rfl rfl (q_in g5) dX5_dropStone_37 ?_
        refine lv_iload_n hx hb dX5_dropStone_38 rfl (lv_at hl 2 rfl) ?_
        refine lv_icmp_ne (tgt := 69) hx hb dX5_dropStone_39 (by decide) (fun c6 => ?_) (fun c6 => ?_)
        · have ht := it_n c6 ht
          refine lv_iinc (v := x3 + 1) (lv' := [(3, .int (x3 + 1)), (0, .ref (d0 0)), (1, .int p0), (2, .int p1)]) hx hb dX5_dropStone_69 hl (k := 3) rfl rfl (by decide) rfl (fun ls hl => ?_)
          refine lv_goto (tgt := 27) hx hb dX5_dropStone_72 (by decide) ?_
          exact ih27 (x3 + 1) S0 _ _ hP hS ls (lv_sub hl [1, 2, 3, 0] rfl) ht
        · have ht := it_p c6 ht
          refine lv_aload_n hx hb dX5_dropStone_42 rfl (lv_at hl 0 rfl) ?_
          refine va_get (D := D) (ci := 5) (v := .ref (d0 7)) (C := RX5) (T := TX5) (N := 11) hx hb hts hi5 hown hE.1 hP 0 rfl rfl 6 (by decide) hw2 (fun _ h9 => h9) rfl dX5_dropStone_43 ?_
          refine lv_iload_n hx hb dX5_dropStone_46 rfl (lv_at hl 3 rfl) ?_
          refine lv_bipush (v := 9) hx hb dX5_dropStone_47 (by decide) ?_
          refine lv_aload_n hx hb dX5_dropStone_49 rfl (lv_at hl 0 rfl) ?_
          refine va_get (D := D) (ci := 5) (v := .ref (d0 7)) (C := RX5) (T := TX5) (N := 11) hx hb hts hi5 hown hE.1 hP 0 rfl rfl 6 (by decide) hw2 (fun _ h9 => h9) rfl dX5_dropStone_50 ?_
          refine lv_iload_n hx hb dX5_dropStone_53 rfl (lv_at hl 3 rfl) ?_
          refine va_iald hx hb hE.1 hP 7 0 rfl rfl (q_in g5) dX5_dropStone_54 ?_
          refine lv_aload_n hx hb dX5_dropStone_55 rfl (lv_at hl 0 rfl) ?_
          refine va_get (D := D) (ci := 5) (v := .ref (d0 5)) (C := RX5) (T := TX5) (N := 11) hx hb hts hi5 hown hE.1 hP 0 rfl rfl 4 (by decide) hw3 (fun _ h9 => h9) rfl dX5_dropStone_56 ?_
          refine lv_iload_n hx hb dX5_dropStone_59 rfl (lv_at hl 1 rfl) ?_
          obtain ⟨g7, ht⟩ := it_g ht
          refine va_iald hx hb hE.1 hP 5 0 rfl rfl (q_in g7) dX5_dropStone_60 ?_
          refine lv_bipush (v := 10) hx hb dX5_dropStone_61 (by decide) ?_
          refine lv_idiv hx hb dX5_dropStone_63 (by decide +kernel) ?_
          refine lv_iadd hx hb dX5_dropStone_64 ?_
          refine q_mmin hx hb (hml.trans hl.1.symm) hown hw4 hw5 hw6 hw7 (Nat.le_of_ble_eq_true rfl) (Nat.le_of_ble_eq_true rfl) (Nat.le_of_ble_eq_true rfl) (Nat.le_of_ble_eq_true rfl) dX5_dropStone_65 ?_
          refine va_iast hx hb hE.1 hP (hD _) hS 7 0 rfl rfl (q_in g5) dX5_dropStone_68 (fun H locs hP _ hS => ?_)
          have hP : va_P D vwCl (wg5 cI cZ d0 (q_su S0 6 x3.toNatClampNeg (q_mn 9 ((S0 6 x3.toNatClampNeg) + ((S0 4 p0.toNatClampNeg) / 10))))) H := hP
          obtain ⟨T8, eT8⟩ : ∃ z : St, z = q_su S0 6 x3.toNatClampNeg (q_mn 9 ((S0 6 x3.toNatClampNeg) + ((S0 4 p0.toNatClampNeg) / 10))) := ⟨_, rfl⟩
          rw [← eT8] at hP
          have ht := it_l ht eT8
          refine lv_iinc (v := x3 + 1) (lv' := [(3, .int (x3 + 1)), (0, .ref (d0 0)), (1, .int p0), (2, .int p1)]) hx hb dX5_dropStone_69 hl (k := 3) rfl rfl (by decide) rfl (fun ls hl => ?_)
          refine lv_goto (tgt := 27) hx hb dX5_dropStone_72 (by decide) ?_
          exact ih27 (x3 + 1) T8 _ _ hP hS ls (lv_sub hl [1, 2, 3, 0] rfl) ht
  refine lv_aload_n hx hb dX5_dropStone_0 rfl (lv_at hl 0 rfl) ?_
  refine lv_iload_n hx hb dX5_dropStone_1 rfl (lv_at hl 1 rfl) ?_
  refine lv_iload_n hx hb dX5_dropStone_2 rfl (lv_at hl 2 rfl) ?_
  refine lv_aload_n hx hb dX5_dropStone_3 rfl (lv_at hl 0 rfl) ?_
  refine va_get (D := D) (ci := 5) (v := .ref (d0 1)) (C := RX5) (T := TX5) (N := 11) hx hb hts hi5 hown hE.1 hP 0 rfl rfl 0 (by decide) hw0 (fun _ h9 => h9) rfl dX5_dropStone_4 ?_
  refine lv_iload_n hx hb dX5_dropStone_7 rfl (lv_at hl 1 rfl) ?_
  obtain ⟨g1, ht⟩ := it_g ht
  refine va_iald hx hb hE.1 hP 1 0 rfl rfl (q_in g1) dX5_dropStone_8 ?_
  refine lv_aload_n hx hb dX5_dropStone_9 rfl (lv_at hl 0 rfl) ?_
  refine va_get (D := D) (ci := 5) (v := .ref (d0 1)) (C := RX5) (T := TX5) (N := 11) hx hb hts hi5 hown hE.1 hP 0 rfl rfl 0 (by decide) hw0 (fun _ h9 => h9) rfl dX5_dropStone_10 ?_
  refine lv_iload_n hx hb dX5_dropStone_13 rfl (lv_at hl 1 rfl) ?_
  refine va_iald hx hb hE.1 hP 1 0 rfl rfl (q_in g1) dX5_dropStone_14 ?_
  obtain ⟨q2, hq2, ht⟩ := it_b ht
  have hFc := q_freeW (hD S0) hS hA
  refine q_mv (va_runV (As := [.int p0, .int p1, .int (S0 0 p0.toNatClampNeg), .int (S0 0 p0.toNatClampNeg)]) (rest := []) ⟨hx, hb, hml, hown, hts⟩ (kX5_put l D cI cZ cO d0 s.heap.size S0 p0 p1 (S0 0 p0.toNatClampNeg) (S0 0 p0.toNatClampNeg) q2 hq2) (cwV 4 hts gX5_dropStone_X5_put rfl rfl rfl (by decide +kernel) ⟨Nat.le_of_ble_eq_true rfl, Nat.le_of_ble_eq_true rfl⟩) (q_mV (As := [.int p0, .int p1, .int (S0 0 p0.toNatClampNeg), .int (S0 0 p0.toNatClampNeg)]) hE hP (hD S0) (q0 := 0) (ci := 5) rfl rfl) rfl rfl hl.1 rfl (lv_room (Nat.le_of_ble_eq_true rfl)) dX5_dropStone_15 ⟨Nat.le_of_ble_eq_true rfl, Nat.le_of_ble_eq_true rfl⟩) hS hFc (fun H locs hP1 hk hS => ?_)
  have hP : va_P D vwCl (wg5 cI cZ d0 q2) H := hP1
  refine lv_aload_n hx hb dX5_dropStone_18 rfl (lv_at hl 0 rfl) ?_
  refine va_get (D := D) (ci := 5) (v := .ref (d0 1)) (C := RX5) (T := TX5) (N := 11) hx hb hts hi5 hown hE.1 hP 0 rfl rfl 0 (by decide) hw0 (fun _ h9 => h9) rfl dX5_dropStone_19 ?_
  refine lv_iload_n hx hb dX5_dropStone_22 rfl (lv_at hl 1 rfl) ?_
  refine lv_iconst (v := 0) hx hb dX5_dropStone_23 (by decide) ?_
  refine va_iast hx hb hE.1 hP (hD _) hS 1 0 rfl rfl (q_in g1) dX5_dropStone_24 (fun H locs hP _ hS => ?_)
  have hP : va_P D vwCl (wg5 cI cZ d0 (q_su q2 0 p0.toNatClampNeg 0)) H := hP
  obtain ⟨T3, eT3⟩ : ∃ z : St, z = q_su q2 0 p0.toNatClampNeg 0 := ⟨_, rfl⟩
  rw [← eT3] at hP
  have ht := it_l ht eT3
  refine lv_iconst (v := 0) hx hb dX5_dropStone_25 (by decide) ?_
  refine lv_istore_n (lv' := [(3, .int 0), (0, .ref (d0 0)), (1, .int p0), (2, .int p1)]) hx hb dX5_dropStone_26 rfl hl (by decide) rfl (fun ls hl => ?_)
  exact L27 5000 0 T3 _ _ hP hS ls (lv_sub hl [1, 2, 3, 0] rfl) ht
abbrev rmX5_readStone : Room := { frames := 1, cells := 0, slots := 0, locals := 24 }
set_option maxHeartbeats 4000000 in
set_option maxRecDepth 100000 in
theorem kX5_readStone (l : Launch) (D : va_G) (cI cZ cO : ClassId) (d0 : Nat → Nat) (sz : Nat) (S0 : St) (p0 : Int32) (p1 : Int32) (tg : St) (ht : xX5_readStone p0 p1 S0 = some tg) : Met l yX5_readStone wsX5_readStone rmX5_readStone (q_PM D cI cZ cO [.ref (d0 0), .int p0, .int p1] sz (wg5 cI cZ d0 S0)) (va_Qv (fun _ : Unit => True) (fun _ t => va_P D vwCl (wg5 cI cZ d0 tg) t.heap) (va_A (wg5 cI cZ d0 S0) sz)) 0 0 (va_A (wg5 cI cZ d0 S0) sz) := by
  refine Met.ofW (cc := cX5_readStone) (maxL := 3) (ret := none) (by decide) rfl ?_
  intro p e s m args below meth c s₁ B hml hv
  obtain ⟨rfl, hsz, hE, hP, hD0⟩ := hv
  have hx := B.exec
  have hb := B.bytes
  have hr := B.returns
  have hts := atoms_spec (ws := wsX5_readStone) B.pre
  have hown : s.vm.findClass RX5 = some m.cls := findClass_of_methodNamed B.named
  have hlocks := B.notSynchronized
  have hi5 : ∀ w ∈ u_ws RX5 TX5 11, w ∈ wsX5_readStone := by decide +kernel
  have hw0 := hts (.fieldLink RX5 15 "HailNames$Plain" "noted" "[I") (by decide +kernel)
  have hw1 := hts (.fieldLink RX5 24 "HailNames$Plain" "figure" "[I") (by decide +kernel)
  have hw2 := hts (.fieldLink RX5 33 "HailNames$Plain" "stonesRead" "[I") (by decide +kernel)
  have hw3 := hts (.methodLink RX5 77 Lib.Math.min.name) (by decide +kernel)
  have hw4 := hts (.static Lib.Math.min.name) (by decide +kernel)
  have hw5 := hts (.initialized "java/lang/Math") (by decide +kernel)
  have hw6 := hts (.code Lib.Math.min.name Lib.Math.min.code 2 (some .int)) (by decide +kernel)
  have hw7 := hts (.fieldLink RX5 36 "HailNames$Plain" "acted" "[Z") (by decide +kernel)
  subst hsz
  have hD1 := hD0.self (sz := s.heap.size)
  generalize hAe : va_A (wg5 cI cZ d0 S0) s.heap.size = A at hD1 ⊢
  have hA : ∀ q : Nat, s.heap.size ≤ q → A q := fun q h => by rw [← hAe]; exact Or.inr h
  have hS : va_S A s.heap s.heap [] := va_S.rf
  have hD : ∀ (S0 : St), va_D A (wg5 cI cZ d0 S0) := fun S0 => q_D hD1 rfl
  have hl := lv_entry ([.ref (d0 0), .int p0, .int p1]) (n := 3) (Nat.le_of_ble_eq_true rfl)
  rw [lg_entry_eq]
  generalize (lg_sl ([.ref (d0 0), .int p0, .int p1]) ++ List.replicate (3 - (lg_sl ([.ref (d0 0), .int p0, .int p1])).length) Slot.unset).toArray = ls at hl ⊢
  have hl : lv_has ls 3 [(0, .ref (d0 0)), (1, .int p0), (2, .int p1)] := hl
  have ht := (xX5_readStone_s p0 p1 S0).symm.trans ht
  refine lv_aload_n hx hb dX5_readStone_0 rfl (lv_at hl 0 rfl) ?_
  refine va_get (D := D) (ci := 5) (v := .ref (d0 2)) (C := RX5) (T := TX5) (N := 11) hx hb hts hi5 hown hE.1 hP 0 rfl rfl 1 (by decide) hw0 (fun _ h9 => h9) rfl dX5_readStone_1 ?_
  refine lv_iload_n hx hb dX5_readStone_4 rfl (lv_at hl 2 rfl) ?_
  refine lv_aload_n hx hb dX5_readStone_5 rfl (lv_at hl 0 rfl) ?_
  refine va_get (D := D) (ci := 5) (v := .ref (d0 5)) (C := RX5) (T := TX5) (N := 11) hx hb hts hi5 hown hE.1 hP 0 rfl rfl 4 (by decide) hw1 (fun _ h9 => h9) rfl dX5_readStone_6 ?_
  refine lv_iload_n hx hb dX5_readStone_9 rfl (lv_at hl 2 rfl) ?_
  obtain ⟨g1, ht⟩ := it_g ht
  refine va_iald hx hb hE.1 hP 5 0 rfl rfl (q_in g1) dX5_readStone_10 ?_
  refine va_iast hx hb hE.1 hP (hD _) hS 2 0 rfl rfl (q_in g1) dX5_readStone_11 (fun H locs hP _ hS => ?_)
  have hP : va_P D vwCl (wg5 cI cZ d0 (q_su S0 1 p1.toNatClampNeg (S0 4 p1.toNatClampNeg))) H := hP
  obtain ⟨T2, eT2⟩ : ∃ z : St, z = q_su S0 1 p1.toNatClampNeg (S0 4 p1.toNatClampNeg) := ⟨_, rfl⟩
  rw [← eT2] at hP
  have ht := it_l ht eT2
  refine lv_aload_n hx hb dX5_readStone_12 rfl (lv_at hl 0 rfl) ?_
  refine va_get (D := D) (ci := 5) (v := .ref (d0 8)) (C := RX5) (T := TX5) (N := 11) hx hb hts hi5 hown hE.1 hP 0 rfl rfl 7 (by decide) hw2 (fun _ h9 => h9) rfl dX5_readStone_13 ?_
  refine lv_iload_n hx hb dX5_readStone_16 rfl (lv_at hl 1 rfl) ?_
  refine lv_sipush (v := 999) hx hb dX5_readStone_17 (by decide +kernel) ?_
  refine lv_aload_n hx hb dX5_readStone_20 rfl (lv_at hl 0 rfl) ?_
  refine va_get (D := D) (ci := 5) (v := .ref (d0 8)) (C := RX5) (T := TX5) (N := 11) hx hb hts hi5 hown hE.1 hP 0 rfl rfl 7 (by decide) hw2 (fun _ h9 => h9) rfl dX5_readStone_21 ?_
  refine lv_iload_n hx hb dX5_readStone_24 rfl (lv_at hl 1 rfl) ?_
  obtain ⟨g3, ht⟩ := it_g ht
  refine va_iald hx hb hE.1 hP 8 0 rfl rfl (q_in g3) dX5_readStone_25 ?_
  refine lv_iconst (v := 1) hx hb dX5_readStone_26 (by decide) ?_
  refine lv_iadd hx hb dX5_readStone_27 ?_
  refine q_mmin hx hb (hml.trans hl.1.symm) hown hw3 hw4 hw5 hw6 (Nat.le_of_ble_eq_true rfl) (Nat.le_of_ble_eq_true rfl) (Nat.le_of_ble_eq_true rfl) (Nat.le_of_ble_eq_true rfl) dX5_readStone_28 ?_
  refine va_iast hx hb hE.1 hP (hD _) hS 8 0 rfl rfl (q_in g3) dX5_readStone_31 (fun H locs hP _ hS => ?_)
  have hP : va_P D vwCl (wg5 cI cZ d0 (q_su T2 7 p0.toNatClampNeg (q_mn 999 ((T2 7 p0.toNatClampNeg) + 1)))) H := hP
  obtain ⟨T4, eT4⟩ : ∃ z : St, z = q_su T2 7 p0.toNatClampNeg (q_mn 999 ((T2 7 p0.toNatClampNeg) + 1)) := ⟨_, rfl⟩
  rw [← eT4] at hP
  have ht := it_l ht eT4
  refine lv_aload_n hx hb dX5_readStone_32 rfl (lv_at hl 0 rfl) ?_
  refine va_get (D := D) (ci := 5) (v := .ref (d0 9)) (C := RX5) (T := TX5) (N := 11) hx hb hts hi5 hown hE.1 hP 0 rfl rfl 8 (by decide) hw7 (fun _ h9 => h9) rfl dX5_readStone_33 ?_
  refine lv_iload_n hx hb dX5_readStone_36 rfl (lv_at hl 1 rfl) ?_
  refine lv_iconst (v := 1) hx hb dX5_readStone_37 (by decide) ?_
  refine va_zast hx hb hE.1 hP (hD _) hS 9 1 rfl rfl (q_in g3) dX5_readStone_38 (fun H locs hP _ hS => ?_)
  have hP : va_P D vwCl (wg5 cI cZ d0 (q_su T4 8 p0.toNatClampNeg (vp_nar .boolean 1))) H := hP
  obtain ⟨T5, eT5⟩ : ∃ z : St, z = q_su T4 8 p0.toNatClampNeg (vp_nar .boolean 1) := ⟨_, rfl⟩
  rw [← eT5] at hP
  have ht := it_l ht eT5
  refine lv_aload_n hx hb dX5_readStone_39 rfl (lv_at hl 0 rfl) ?_
  refine lv_iload_n hx hb dX5_readStone_40 rfl (lv_at hl 2 rfl) ?_
  refine lv_bipush (v := (-6)) hx hb dX5_readStone_41 (by decide) ?_
  refine lv_iconst (v := 0) hx hb dX5_readStone_43 (by decide) ?_
  refine lv_iconst (v := 0) hx hb dX5_readStone_44 (by decide) ?_
  obtain ⟨q6, hq6, ht⟩ := it_b ht
  have hFc := q_freeW (hD T5) hS hA
  refine q_mv (va_runV (As := [.int p1, .int (-6), .int 0, .int 0]) (rest := []) ⟨hx, hb, hml, hown, hts⟩ (kX5_put l D cI cZ cO d0 H.size T5 p1 (-6) 0 0 q6 hq6) (cwV 4 hts gX5_readStone_X5_put rfl rfl rfl (by decide +kernel) ⟨Nat.le_of_ble_eq_true rfl, Nat.le_of_ble_eq_true rfl⟩) (q_mV (As := [.int p1, .int (-6), .int 0, .int 0]) hE hP (hD T5) (q0 := 0) (ci := 5) rfl rfl) rfl rfl hl.1 rfl (lv_room (Nat.le_of_ble_eq_true rfl)) dX5_readStone_45 ⟨Nat.le_of_ble_eq_true rfl, Nat.le_of_ble_eq_true rfl⟩) hS hFc (fun H locs hP1 hk hS => ?_)
  have hP : va_P D vwCl (wg5 cI cZ d0 q6) H := hP1
  obtain rfl := Option.some.inj ht
  exact W.vret hx hb hr (fun t e1 hW => ⟨⟨(), rfl, trivial, q_at e1 hP⟩, hS.F e1⟩) hS.2.2 dX5_readStone_48
abbrev rmX5_passSecond : Room := { frames := 1, cells := 0, slots := 0, locals := 24 }
set_option maxHeartbeats 4000000 in
set_option maxRecDepth 100000 in
theorem kX5_passSecond (l : Launch) (D : va_G) (cI cZ cO : ClassId) (d0 : Nat → Nat) (sz : Nat) (S0 : St) (tg : Int32 × St) (ht : xX5_passSecond S0 = some tg) : Met l yX5_passSecond wsX5_passSecond rmX5_passSecond (q_PM D cI cZ cO [.ref (d0 0)] sz (wg5 cI cZ d0 S0)) (va_Qi (fun x (_ : Unit) => x = tg.1 ∧ True) (fun _ t => va_P D vwCl (wg5 cI cZ d0 tg.2) t.heap) (va_A (wg5 cI cZ d0 S0) sz)) 0 0 (va_A (wg5 cI cZ d0 S0) sz) := by
  refine Met.ofW (cc := cX5_passSecond) (maxL := 3) (ret := (some .int)) (by decide) rfl ?_
  intro p e s m args below meth c s₁ B hml hv
  obtain ⟨rfl, hsz, hE, hP, hD0⟩ := hv
  have hx := B.exec
  have hb := B.bytes
  have hr := B.returns
  have hts := atoms_spec (ws := wsX5_passSecond) B.pre
  have hown : s.vm.findClass RX5 = some m.cls := findClass_of_methodNamed B.named
  have hlocks := B.notSynchronized
  have hi5 : ∀ w ∈ u_ws RX5 TX5 11, w ∈ wsX5_passSecond := by decide +kernel
  have hw0 := hts (.fieldLink RX5 21 "HailNames$Plain" "size" "[I") (by decide +kernel)
  have hw1 := hts (.fieldLink RX5 40 "HailNames$Plain" "melting" "I") (by decide +kernel)
  have hw2 := hts (.fieldLink RX5 44 "HailNames$Plain" "second" "I") (by decide +kernel)
  have hw3 := hts (.fieldLink RX5 30 "HailNames$Plain" "stunned" "[I") (by decide +kernel)
  have hw4 := hts (.methodLink RX5 72 Lib.Math.max.name) (by decide +kernel)
  have hw5 := hts (.static Lib.Math.max.name) (by decide +kernel)
  have hw6 := hts (.initialized "java/lang/Math") (by decide +kernel)
  have hw7 := hts (.code Lib.Math.max.name Lib.Math.max.code 2 (some .int)) (by decide +kernel)
  have hw8 := hts (.fieldLink RX5 36 "HailNames$Plain" "acted" "[Z") (by decide +kernel)
  subst hsz
  have hD1 := hD0.self (sz := s.heap.size)
  generalize hAe : va_A (wg5 cI cZ d0 S0) s.heap.size = A at hD1 ⊢
  have hA : ∀ q : Nat, s.heap.size ≤ q → A q := fun q h => by rw [← hAe]; exact Or.inr h
  have hS : va_S A s.heap s.heap [] := va_S.rf
  have hD : ∀ (S0 : St), va_D A (wg5 cI cZ d0 S0) := fun S0 => q_D hD1 rfl
  have hl := lv_entry ([.ref (d0 0)]) (n := 3) (Nat.le_of_ble_eq_true rfl)
  rw [lg_entry_eq]
  generalize (lg_sl ([.ref (d0 0)]) ++ List.replicate (3 - (lg_sl ([.ref (d0 0)])).length) Slot.unset).toArray = ls at hl ⊢
  have hl : lv_has ls 3 [(0, .ref (d0 0))] := hl
  have ht := (xX5_passSecond_s S0).symm.trans ht
  obtain ⟨Q, hQ⟩ : ∃ Q, Q = MQ below (va_Qi (fun x (_ : Unit) => x = tg.1 ∧ True) (fun _ t => va_P D vwCl (wg5 cI cZ d0 tg.2) t.heap) A) ([.ref (d0 0)] : List Value).toArray s 0 0 A := ⟨_, rfl⟩
  rw [← hQ]
  have L4 : ∀ (n : Nat) (x1 : Int32) (x2 : Int32) (S0 : St) (H : Heap) (locs : List Loc) (_ : va_P D vwCl (wg5 cI cZ d0 S0) H) (_ : va_S A s.heap H locs) (ls : Array Slot) (_ : lv_has ls 3 [(0, .ref (d0 0)), (1, .int x1), (2, .int x2)]) (_ : xX5_passSecond_h4 n x1 x2 S0 = some tg), W p l e (headSpec wsX5_passSecond rmX5_passSecond).room s m ([.ref (d0 0)] : List Value).toArray below meth c H locs 0 0 Q (F0 m 4 ls []) := by
    intro n
    induction n with
    | zero =>
      intro x1 x2 S0 H locs hP hS ls hl ht
      exact it_z ht
    | succ n4 ih4 =>
      intro x1 x2 S0 H locs hP hS ls hl ht
      have ht := (xX5_passSecond_h4_s n4 x1 x2 S0).symm.trans ht
      have L63 : ∀ (n : Nat) (x1 : Int32) (x2 : Int32) (S0 : St) (H : Heap) (locs : List Loc) (_ : va_P D vwCl (wg5 cI cZ d0 S0) H) (_ : va_S A s.heap H locs) (ls : Array Slot) (_ : lv_has ls 3 [(0, .ref (d0 0)), (1, .int x1), (2, .int x2)]) (_ : xX5_passSecond_h63 n x1 x2 S0 = some tg), W p l e (headSpec wsX5_passSecond rmX5_passSecond).room s m ([.ref (d0 0)] : List Value).toArray below meth c H locs 0 0 Q (F0 m 63 ls []) := by
        intro n
        induction n with
        | zero =>
          intro x1 x2 S0 H locs hP hS ls hl ht
          exact it_z ht
        | succ n63 ih63 =>
          intro x1 x2 S0 H locs hP hS ls hl ht
          have ht := (xX5_passSecond_h63_s n63 x1 x2 S0).symm.trans ht
          refine lv_iload_n hx hb dX5_passSecond_63 rfl (lv_at hl 2 rfl) ?_
          refine lv_iconst (v := 4) hx hb dX5_passSecond_64 (by decide) ?_
          refine lv_icmp_ge (tgt := 99) hx hb dX5_passSecond_65 (by decide) (fun c9 => ?_) (fun c9 => ?_)
          · have ht := it_p c9 ht
            refine lv_aload_n hx hb dX5_passSecond_99 rfl (lv_at hl 0 rfl) ?_
            refine lv_dup hx hb dX5_passSecond_100 rfl ?_
            refine va_get (D := D) (ci := 5) (v := .int (S0 10 0)) (C := RX5) (T := TX5) (N := 11) hx hb hts hi5 hown hE.1 hP 0 rfl rfl 10 (by decide) hw2 (fun _ h9 => h9) rfl dX5_passSecond_101 ?_
            refine lv_iconst (v := 1) hx hb dX5_passSecond_104 (by decide) ?_
            refine lv_iadd hx hb dX5_passSecond_105 ?_
            refine va_put (D := D) (ci := 5) (v := .int ((S0 10 0) + 1)) (ty := .int) (C := RX5) (T := TX5) (N := 11) hx hb hts hi5 tyX5 tyX5_ok nmX5 hown hE.1 hP (hD _) hS 0 rfl rfl 10 (by decide) hw2 (fun _ h9 => h9) rfl (by decide +kernel) rfl rfl (Nat.le_of_ble_eq_true rfl) dX5_passSecond_106 (fun H locs hP _ hS => ?_)
            have hP : va_P D vwCl (wg5 cI cZ d0 (q_su S0 10 0 ((S0 10 0) + 1))) H := hP
            obtain ⟨T10, eT10⟩ : ∃ z : St, z = q_su S0 10 0 ((S0 10 0) + 1) := ⟨_, rfl⟩
            rw [← eT10] at hP
            have ht := it_l ht eT10
            refine lv_iload_n hx hb dX5_passSecond_109 rfl (lv_at hl 1 rfl) ?_
            subst hQ
            obtain rfl := Option.some.inj ht
            exact W.iret (v := x1) hx hb hr (fun t e1 hW => ⟨⟨_, (), rfl, ⟨rfl, trivial⟩, q_at e1 hP⟩, hS.F e1⟩) hS.2.2 dX5_passSecond_110
          · have ht := it_n c9 ht
            refine lv_aload_n hx hb dX5_passSecond_68 rfl (lv_at hl 0 rfl) ?_
            refine va_get (D := D) (ci := 5) (v := .ref (d0 7)) (C := RX5) (T := TX5) (N := 11) hx hb hts hi5 hown hE.1 hP 0 rfl rfl 6 (by decide) hw3 (fun _ h9 => h9) rfl dX5_passSecond_69 ?_
            refine lv_iload_n hx hb dX5_passSecond_72 rfl (lv_at hl 2 rfl) ?_
            refine lv_iconst (v := 0) hx hb dX5_passSecond_73 (by decide) ?_
            refine lv_aload_n hx hb dX5_passSecond_74 rfl (lv_at hl 0 rfl) ?_
            refine va_get (D := D) (ci := 5) (v := .ref (d0 7)) (C := RX5) (T := TX5) (N := 11) hx hb hts hi5 hown hE.1 hP 0 rfl rfl 6 (by decide) hw3 (fun _ h9 => h9) rfl dX5_passSecond_75 ?_
            refine lv_iload_n hx hb dX5_passSecond_78 rfl (lv_at hl 2 rfl) ?_
            obtain ⟨g11, ht⟩ := it_g ht
            refine va_iald hx hb hE.1 hP 7 0 rfl rfl (q_in g11) dX5_passSecond_79 ?_
            refine lv_iconst (v := 1) hx hb dX5_passSecond_80 (by decide) ?_
            refine lv_isub hx hb dX5_passSecond_81 ?_
            refine q_mmax hx hb (hml.trans hl.1.symm) hown hw4 hw5 hw6 hw7 (Nat.le_of_ble_eq_true rfl) (Nat.le_of_ble_eq_true rfl) (Nat.le_of_ble_eq_true rfl) (Nat.le_of_ble_eq_true rfl) dX5_passSecond_82 ?_
            refine va_iast hx hb hE.1 hP (hD _) hS 7 0 rfl rfl (q_in g11) dX5_passSecond_85 (fun H locs hP _ hS => ?_)
            have hP : va_P D vwCl (wg5 cI cZ d0 (q_su S0 6 x2.toNatClampNeg (q_mx 0 ((S0 6 x2.toNatClampNeg) - 1)))) H := hP
            obtain ⟨T12, eT12⟩ : ∃ z : St, z = q_su S0 6 x2.toNatClampNeg (q_mx 0 ((S0 6 x2.toNatClampNeg) - 1)) := ⟨_, rfl⟩
            rw [← eT12] at hP
            have ht := it_l ht eT12
            refine lv_aload_n hx hb dX5_passSecond_86 rfl (lv_at hl 0 rfl) ?_
            refine va_get (D := D) (ci := 5) (v := .ref (d0 9)) (C := RX5) (T := TX5) (N := 11) hx hb hts hi5 hown hE.1 hP 0 rfl rfl 8 (by decide) hw8 (fun _ h9 => h9) rfl dX5_passSecond_87 ?_
            refine lv_iload_n hx hb dX5_passSecond_90 rfl (lv_at hl 2 rfl) ?_
            refine lv_iconst (v := 0) hx hb dX5_passSecond_91 (by decide) ?_
            refine va_zast hx hb hE.1 hP (hD _) hS 9 1 rfl rfl (q_in g11) dX5_passSecond_92 (fun H locs hP _ hS => ?_)
            have hP : va_P D vwCl (wg5 cI cZ d0 (q_su T12 8 x2.toNatClampNeg (vp_nar .boolean 0))) H := hP
            obtain ⟨T13, eT13⟩ : ∃ z : St, z = q_su T12 8 x2.toNatClampNeg (vp_nar .boolean 0) := ⟨_, rfl⟩
            rw [← eT13] at hP
            have ht := it_l ht eT13
            refine lv_iinc (v := x2 + 1) (lv' := [(2, .int (x2 + 1)), (0, .ref (d0 0)), (1, .int x1)]) hx hb dX5_passSecond_93 hl (k := 2) rfl rfl (by decide) rfl (fun ls hl => ?_)
            refine lv_goto (tgt := 63) hx hb dX5_passSecond_96 (by decide) ?_
            exact ih63 x1 (x2 + 1) T13 _ _ hP hS ls (lv_sub hl [1, 2, 0] rfl) ht
      refine lv_iload_n hx hb dX5_passSecond_4 rfl (lv_at hl 2 rfl) ?_
      refine lv_bipush (v := 8) hx hb dX5_passSecond_5 (by decide) ?_
      refine lv_icmp_ge (tgt := 61) hx hb dX5_passSecond_7 (by decide) (fun c1 => ?_) (fun c1 => ?_)
      · have ht := it_p c1 ht
        refine lv_iconst (v := 0) hx hb dX5_passSecond_61 (by decide) ?_
        refine lv_istore_n (lv' := [(2, .int 0), (0, .ref (d0 0)), (1, .int x1)]) hx hb dX5_passSecond_62 rfl hl (by decide) rfl (fun ls hl => ?_)
        exact L63 5000 x1 0 S0 _ _ hP hS ls (lv_sub hl [1, 2, 0] rfl) ht
      · have ht := it_n c1 ht
        refine lv_aload_n hx hb dX5_passSecond_10 rfl (lv_at hl 0 rfl) ?_
        refine lv_iload_n hx hb dX5_passSecond_11 rfl (lv_at hl 2 rfl) ?_
        obtain ⟨q2, hq2, ht⟩ := it_b ht
        refine q_ri (va_runV (As := [.int x2]) (rest := []) ⟨hx, hb, hml, hown, hts⟩ (kX5_lies l D cI cZ cO d0 S0 x2 q2 hq2) (cwV 1 hts gX5_passSecond_X5_lies rfl rfl rfl (by decide +kernel) ⟨Nat.le_of_ble_eq_true rfl, Nat.le_of_ble_eq_true rfl⟩) (q_rV (As := [.int x2]) hE hP (q0 := 0) (ci := 5) rfl rfl) rfl rfl hl.1 rfl (lv_room (Nat.le_of_ble_eq_true rfl)) dX5_passSecond_12 ⟨Nat.le_of_ble_eq_true rfl, Nat.le_of_ble_eq_true rfl⟩) (fun b3 => ?_)
        refine lv_if_eq (tgt := 55) hx hb dX5_passSecond_15 (by decide) (fun c4 => ?_) (fun c4 => ?_)
        · have ht := it_p c4 ht
          refine lv_iinc (v := x2 + 1) (lv' := [(2, .int (x2 + 1)), (0, .ref (d0 0)), (1, .int x1)]) hx hb dX5_passSecond_55 hl (k := 2) rfl rfl (by decide) rfl (fun ls hl => ?_)
          refine lv_goto (tgt := 4) hx hb dX5_passSecond_58 (by decide) ?_
          exact ih4 x1 (x2 + 1) S0 _ _ hP hS ls (lv_sub hl [1, 2, 0] rfl) ht
        · have ht := it_n c4 ht
          refine lv_aload_n hx hb dX5_passSecond_18 rfl (lv_at hl 0 rfl) ?_
          refine va_get (D := D) (ci := 5) (v := .ref (d0 4)) (C := RX5) (T := TX5) (N := 11) hx hb hts hi5 hown hE.1 hP 0 rfl rfl 3 (by decide) hw0 (fun _ h9 => h9) rfl dX5_passSecond_19 ?_
          refine lv_iload_n hx hb dX5_passSecond_22 rfl (lv_at hl 2 rfl) ?_
          refine lv_dup2_11 hx hb dX5_passSecond_23 rfl rfl ?_
          obtain ⟨g5, ht⟩ := it_g ht
          refine va_iald hx hb hE.1 hP 4 0 rfl rfl (q_in g5) dX5_passSecond_24 ?_
          refine lv_aload_n hx hb dX5_passSecond_25 rfl (lv_at hl 0 rfl) ?_
          refine va_get (D := D) (ci := 5) (v := .int (S0 9 0)) (C := RX5) (T := TX5) (N := 11) hx hb hts hi5 hown hE.1 hP 0 rfl rfl 9 (by decide) hw1 (fun _ h9 => h9) rfl dX5_passSecond_26 ?_
          refine lv_isub hx hb dX5_passSecond_29 ?_
          refine va_iast hx hb hE.1 hP (hD _) hS 4 0 rfl rfl (q_in g5) dX5_passSecond_30 (fun H locs hP _ hS => ?_)
          have hP : va_P D vwCl (wg5 cI cZ d0 (q_su S0 3 x2.toNatClampNeg ((S0 3 x2.toNatClampNeg) - (S0 9 0)))) H := hP
          obtain ⟨T6, eT6⟩ : ∃ z : St, z = q_su S0 3 x2.toNatClampNeg ((S0 3 x2.toNatClampNeg) - (S0 9 0)) := ⟨_, rfl⟩
          rw [← eT6] at hP
          have ht := it_l ht eT6
          refine lv_aload_n hx hb dX5_passSecond_31 rfl (lv_at hl 0 rfl) ?_
          refine va_get (D := D) (ci := 5) (v := .ref (d0 4)) (C := RX5) (T := TX5) (N := 11) hx hb hts hi5 hown hE.1 hP 0 rfl rfl 3 (by decide) hw0 (fun _ h9 => h9) rfl dX5_passSecond_32 ?_
          refine lv_iload_n hx hb dX5_passSecond_35 rfl (lv_at hl 2 rfl) ?_
          refine va_iald hx hb hE.1 hP 4 0 rfl rfl (q_in g5) dX5_passSecond_36 ?_
          refine lv_if_gt (tgt := 55) hx hb dX5_passSecond_37 (by decide) (fun c7 => ?_) (fun c7 => ?_)
          · have ht := it_p c7 ht
            refine lv_iinc (v := x2 + 1) (lv' := [(2, .int (x2 + 1)), (0, .ref (d0 0)), (1, .int x1)]) hx hb dX5_passSecond_55 hl (k := 2) rfl rfl (by decide) rfl (fun ls hl => ?_)
            refine lv_goto (tgt := 4) hx hb dX5_passSecond_58 (by decide) ?_
            exact ih4 x1 (x2 + 1) T6 _ _ hP hS ls (lv_sub hl [1, 2, 0] rfl) ht
          · have ht := it_n c7 ht
            refine lv_aload_n hx hb dX5_passSecond_40 rfl (lv_at hl 0 rfl) ?_
            refine lv_iload_n hx hb dX5_passSecond_41 rfl (lv_at hl 2 rfl) ?_
            refine lv_bipush (v := (-6)) hx hb dX5_passSecond_42 (by decide) ?_
            refine lv_iconst (v := 0) hx hb dX5_passSecond_44 (by decide) ?_
            refine lv_iconst (v := 0) hx hb dX5_passSecond_45 (by decide) ?_
            obtain ⟨q8, hq8, ht⟩ := it_b ht
            have hFc := q_freeW (hD T6) hS hA
            refine q_mv (va_runV (As := [.int x2, .int (-6), .int 0, .int 0]) (rest := []) ⟨hx, hb, hml, hown, hts⟩ (kX5_put l D cI cZ cO d0 H.size T6 x2 (-6) 0 0 q8 hq8) (cwV 4 hts gX5_passSecond_X5_put rfl rfl rfl (by decide +kernel) ⟨Nat.le_of_ble_eq_true rfl, Nat.le_of_ble_eq_true rfl⟩) (q_mV (As := [.int x2, .int (-6), .int 0, .int 0]) hE hP (hD T6) (q0 := 0) (ci := 5) rfl rfl) rfl rfl hl.1 rfl (lv_room (Nat.le_of_ble_eq_true rfl)) dX5_passSecond_46 ⟨Nat.le_of_ble_eq_true rfl, Nat.le_of_ble_eq_true rfl⟩) hS hFc (fun H locs hP1 hk hS => ?_)
            have hP : va_P D vwCl (wg5 cI cZ d0 q8) H := hP1
            refine lv_iload_n hx hb dX5_passSecond_49 rfl (lv_at hl 1 rfl) ?_
            refine lv_iconst (v := 1) hx hb dX5_passSecond_50 (by decide) ?_
            refine lv_iload_n hx hb dX5_passSecond_51 rfl (lv_at hl 2 rfl) ?_
            refine q_ishl hx hb dX5_passSecond_52 ?_
            refine lv_ior hx hb dX5_passSecond_53 ?_
            refine lv_istore_n (lv' := [(1, .int (x1 ||| (q_shl 1 x2))), (0, .ref (d0 0)), (2, .int x2)]) hx hb dX5_passSecond_54 rfl hl (by decide) rfl (fun ls hl => ?_)
            refine lv_iinc (v := x2 + 1) (lv' := [(2, .int (x2 + 1)), (1, .int (x1 ||| (q_shl 1 x2))), (0, .ref (d0 0))]) hx hb dX5_passSecond_55 hl (k := 2) rfl rfl (by decide) rfl (fun ls hl => ?_)
            refine lv_goto (tgt := 4) hx hb dX5_passSecond_58 (by decide) ?_
            exact ih4 (x1 ||| (q_shl 1 x2)) (x2 + 1) q8 _ _ hP hS ls (lv_sub hl [2, 1, 0] rfl) ht
  refine lv_iconst (v := 0) hx hb dX5_passSecond_0 (by decide) ?_
  refine lv_istore_n (lv' := [(1, .int 0), (0, .ref (d0 0))]) hx hb dX5_passSecond_1 rfl hl (by decide) rfl (fun ls hl => ?_)
  refine lv_iconst (v := 0) hx hb dX5_passSecond_2 (by decide) ?_
  refine lv_istore_n (lv' := [(2, .int 0), (1, .int 0), (0, .ref (d0 0))]) hx hb dX5_passSecond_3 rfl hl (by decide) rfl (fun ls hl => ?_)
  exact L4 5000 0 0 S0 _ _ hP hS ls (lv_sub hl [2, 1, 0] rfl) ht
abbrev rmX5_perform : Room := { frames := 2, cells := 0, slots := 0, locals := 47 }
set_option maxHeartbeats 4000000 in
set_option maxRecDepth 100000 in
theorem kX5_perform (l : Launch) (D : va_G) (cI cZ cO : ClassId) (d0 : Nat → Nat) (d1 : Nat → Nat) (sz : Nat) (S0 : St) (S1 : St) (tg : Int32 × St) (ht : xX5_perform S1 S0 = some tg) : Met l yX5_perform wsX5_perform rmX5_perform (q_PM D cI cZ cO [.ref (d0 0), .ref (d1 0)] sz (wg5 cI cZ d0 S0 ++ (wg0 cI cZ d1 S1))) (va_Qi (fun x (_ : Unit) => x = tg.1 ∧ True) (fun _ t => va_P D vwCl (wg5 cI cZ d0 tg.2 ++ (wg0 cI cZ d1 S1)) t.heap) (va_A (wg5 cI cZ d0 S0 ++ (wg0 cI cZ d1 S1)) sz)) 0 0 (va_A (wg5 cI cZ d0 S0 ++ (wg0 cI cZ d1 S1)) sz) := by
  refine Met.ofW (cc := cX5_perform) (maxL := 2) (ret := (some .int)) (by decide) rfl ?_
  intro p e s m args below meth c s₁ B hml hv
  obtain ⟨rfl, hsz, hE, hP, hD0⟩ := hv
  have hx := B.exec
  have hb := B.bytes
  have hr := B.returns
  have hts := atoms_spec (ws := wsX5_perform) B.pre
  have hown : s.vm.findClass RX5 = some m.cls := findClass_of_methodNamed B.named
  have hlocks := B.notSynchronized
  have hi0 : ∀ w ∈ u_ws RX0 TX0 3, w ∈ wsX5_perform := by decide +kernel
  have hi5 : ∀ w ∈ u_ws RX5 TX5 11, w ∈ wsX5_perform := by decide +kernel
  have hw0 := hts (.fieldLink RX5 80 "HailNames$Act" "kind" "I") (by decide +kernel)
  have hw1 := hts (.fieldLink RX5 9 "HailNames$Plain" "count" "[I") (by decide +kernel)
  have hw2 := hts (.fieldLink RX5 88 "HailNames$Act" "whom" "I") (by decide +kernel)
  have hw3 := hts (.fieldLink RX5 85 "HailNames$Act" "who" "I") (by decide +kernel)
  have hw4 := hts (.fieldLink RX5 27 "HailNames$Plain" "place" "[I") (by decide +kernel)
  have hw5 := hts (.fieldLink RX5 36 "HailNames$Plain" "acted" "[Z") (by decide +kernel)
  subst hsz
  have hD1 := hD0.self (sz := s.heap.size)
  generalize hAe : va_A (wg5 cI cZ d0 S0 ++ (wg0 cI cZ d1 S1)) s.heap.size = A at hD1 ⊢
  have hA : ∀ q : Nat, s.heap.size ≤ q → A q := fun q h => by rw [← hAe]; exact Or.inr h
  have hS : va_S A s.heap s.heap [] := va_S.rf
  have hD : ∀ (S0 : St) (S1 : St), va_D A (wg5 cI cZ d0 S0 ++ (wg0 cI cZ d1 S1)) := fun S0 S1 => q_D hD1 rfl
  have hl := lv_entry ([.ref (d0 0), .ref (d1 0)]) (n := 2) (Nat.le_of_ble_eq_true rfl)
  rw [lg_entry_eq]
  generalize (lg_sl ([.ref (d0 0), .ref (d1 0)]) ++ List.replicate (2 - (lg_sl ([.ref (d0 0), .ref (d1 0)])).length) Slot.unset).toArray = ls at hl ⊢
  have hl : lv_has ls 2 [(0, .ref (d0 0)), (1, .ref (d1 0))] := hl
  have ht := (xX5_perform_s S1 S0).symm.trans ht
  refine lv_aload_n hx hb dX5_perform_0 rfl (lv_at hl 1 rfl) ?_
  refine va_get (D := D) (ci := 0) (v := .int (S1 0 0)) (C := RX0) (T := TX0) (N := 3) hx hb hts hi0 hown hE.1 hP 10 rfl rfl 0 (by decide) hw0 (fun _ h9 => h9) rfl dX5_perform_1 ?_
  by_cases c1 : S1 0 0 = 0
  · have ht := it_p c1 ht
    refine lv_tableIn (tgt := 36) hx hb dX5_perform_4 (by rw [c1]; decide) (by rw [c1]; decide) (by rw [c1]; rfl) (by decide) ?_
    refine lv_aload_n hx hb dX5_perform_36 rfl (lv_at hl 0 rfl) ?_
    refine va_get (D := D) (ci := 5) (v := .ref (d0 1)) (C := RX5) (T := TX5) (N := 11) hx hb hts hi5 hown hE.1 hP 0 rfl rfl 0 (by decide) hw1 (fun _ h9 => h9) rfl dX5_perform_37 ?_
    refine lv_aload_n hx hb dX5_perform_40 rfl (lv_at hl 1 rfl) ?_
    refine va_get (D := D) (ci := 0) (v := .int (S1 2 0)) (C := RX0) (T := TX0) (N := 3) hx hb hts hi0 hown hE.1 hP 10 rfl rfl 2 (by decide) hw2 (fun _ h9 => h9) rfl dX5_perform_41 ?_
    refine lv_dup2_11 hx hb dX5_perform_44 rfl rfl ?_
    obtain ⟨g2, ht⟩ := it_g ht
    refine va_iald hx hb hE.1 hP 1 0 rfl rfl (q_in g2) dX5_perform_45 ?_
    refine lv_iconst (v := 1) hx hb dX5_perform_46 (by decide) ?_
    refine lv_iadd hx hb dX5_perform_47 ?_
    refine va_iast hx hb hE.1 hP (hD _ _) hS 1 0 rfl rfl (q_in g2) dX5_perform_48 (fun H locs hP _ hS => ?_)
    have hP : va_P D vwCl (wg5 cI cZ d0 (q_su S0 0 ((S1 2 0).toNatClampNeg) ((S0 0 (S1 2 0).toNatClampNeg) + 1)) ++ (wg0 cI cZ d1 S1)) H := hP
    obtain ⟨T3, eT3⟩ : ∃ z : St, z = q_su S0 0 ((S1 2 0).toNatClampNeg) ((S0 0 (S1 2 0).toNatClampNeg) + 1) := ⟨_, rfl⟩
    rw [← eT3] at hP
    have ht := it_l ht eT3
    refine lv_iconst (v := 0) hx hb dX5_perform_49 (by decide) ?_
    obtain rfl := Option.some.inj ht
    exact W.iret (v := 0) hx hb hr (fun t e1 hW => ⟨⟨_, (), rfl, ⟨rfl, trivial⟩, q_at e1 hP⟩, hS.F e1⟩) hS.2.2 dX5_perform_50
  have ht := it_n c1 ht
  by_cases c4 : S1 0 0 = 1
  · have ht := it_p c4 ht
    refine lv_tableIn (tgt := 51) hx hb dX5_perform_4 (by rw [c4]; decide) (by rw [c4]; decide) (by rw [c4]; rfl) (by decide) ?_
    refine lv_aload_n hx hb dX5_perform_51 rfl (lv_at hl 0 rfl) ?_
    refine lv_aload_n hx hb dX5_perform_52 rfl (lv_at hl 1 rfl) ?_
    refine va_get (D := D) (ci := 0) (v := .int (S1 1 0)) (C := RX0) (T := TX0) (N := 3) hx hb hts hi0 hown hE.1 hP 10 rfl rfl 1 (by decide) hw3 (fun _ h9 => h9) rfl dX5_perform_53 ?_
    refine lv_aload_n hx hb dX5_perform_56 rfl (lv_at hl 1 rfl) ?_
    refine va_get (D := D) (ci := 0) (v := .int (S1 2 0)) (C := RX0) (T := TX0) (N := 3) hx hb hts hi0 hown hE.1 hP 10 rfl rfl 2 (by decide) hw2 (fun _ h9 => h9) rfl dX5_perform_57 ?_
    obtain ⟨q5, hq5, ht⟩ := it_b ht
    have hPc : va_P D vwCl (wg5 cI cZ d0 S0) s.heap := hP.sub [0, 1, 2, 3, 4, 5, 6, 7, 8, 9] rfl
    have hDc : va_D A (wg5 cI cZ d0 S0) := ((hD S0 S1)).sub [0, 1, 2, 3, 4, 5, 6, 7, 8, 9] (by decide) rfl
    have hFc := va_free (wc := (wg5 cI cZ d0 S0)) (hD S0 S1) hS hA [0, 1, 2, 3, 4, 5, 6, 7, 8, 9] rfl
    refine q_mv (va_runV (As := [.int (S1 1 0), .int (S1 2 0)]) (rest := []) ⟨hx, hb, hml, hown, hts⟩ (kX5_dropStone l D cI cZ cO d0 s.heap.size S0 (S1 1 0) (S1 2 0) q5 hq5) (cwV 2 hts gX5_perform_X5_dropStone rfl rfl rfl (by decide +kernel) ⟨Nat.le_of_ble_eq_true rfl, Nat.le_of_ble_eq_true rfl⟩) (q_mV (As := [.int (S1 1 0), .int (S1 2 0)]) hE hPc hDc (q0 := 0) (ci := 5) rfl rfl) rfl rfl hl.1 rfl (lv_room (Nat.le_of_ble_eq_true rfl)) dX5_perform_60 ⟨Nat.le_of_ble_eq_true rfl, Nat.le_of_ble_eq_true rfl⟩) hS hFc (fun H locs hP1 hk hS => ?_)
    have hP : va_P D vwCl (wg5 cI cZ d0 q5 ++ (wg0 cI cZ d1 S1)) H := (q_join (wr := (wg0 cI cZ d1 S1)) hP (hD S0 S1) [0, 1, 2, 3, 4, 5, 6, 7, 8, 9] [10] rfl rfl (by decide) (by decide) hk hFc hP1 hDc rfl).sub [1, 2, 3, 4, 5, 6, 7, 8, 9, 10, 0] rfl
    refine lv_iconst (v := 0) hx hb dX5_perform_63 (by decide) ?_
    obtain rfl := Option.some.inj ht
    exact W.iret (v := 0) hx hb hr (fun t e1 hW => ⟨⟨_, (), rfl, ⟨rfl, trivial⟩, q_at e1 hP⟩, hS.F e1⟩) hS.2.2 dX5_perform_64
  have ht := it_n c4 ht
  by_cases c6 : S1 0 0 = 2
  · have ht := it_p c6 ht
    refine lv_tableIn (tgt := 65) hx hb dX5_perform_4 (by rw [c6]; decide) (by rw [c6]; decide) (by rw [c6]; rfl) (by decide) ?_
    refine lv_aload_n hx hb dX5_perform_65 rfl (lv_at hl 0 rfl) ?_
    refine va_get (D := D) (ci := 5) (v := .ref (d0 6)) (C := RX5) (T := TX5) (N := 11) hx hb hts hi5 hown hE.1 hP 0 rfl rfl 5 (by decide) hw4 (fun _ h9 => h9) rfl dX5_perform_66 ?_
    refine lv_aload_n hx hb dX5_perform_69 rfl (lv_at hl 1 rfl) ?_
    refine va_get (D := D) (ci := 0) (v := .int (S1 1 0)) (C := RX0) (T := TX0) (N := 3) hx hb hts hi0 hown hE.1 hP 10 rfl rfl 1 (by decide) hw3 (fun _ h9 => h9) rfl dX5_perform_70 ?_
    refine lv_dup2_11 hx hb dX5_perform_73 rfl rfl ?_
    obtain ⟨g7, ht⟩ := it_g ht
    refine va_iald hx hb hE.1 hP 6 0 rfl rfl (q_in g7) dX5_perform_74 ?_
    refine lv_aload_n hx hb dX5_perform_75 rfl (lv_at hl 1 rfl) ?_
    refine va_get (D := D) (ci := 0) (v := .int (S1 2 0)) (C := RX0) (T := TX0) (N := 3) hx hb hts hi0 hown hE.1 hP 10 rfl rfl 2 (by decide) hw2 (fun _ h9 => h9) rfl dX5_perform_76 ?_
    refine lv_iadd hx hb dX5_perform_79 ?_
    refine va_iast hx hb hE.1 hP (hD _ _) hS 6 0 rfl rfl (q_in g7) dX5_perform_80 (fun H locs hP _ hS => ?_)
    have hP : va_P D vwCl (wg5 cI cZ d0 (q_su S0 5 ((S1 1 0).toNatClampNeg) ((S0 5 (S1 1 0).toNatClampNeg) + (S1 2 0))) ++ (wg0 cI cZ d1 S1)) H := hP
    obtain ⟨T8, eT8⟩ : ∃ z : St, z = q_su S0 5 ((S1 1 0).toNatClampNeg) ((S0 5 (S1 1 0).toNatClampNeg) + (S1 2 0)) := ⟨_, rfl⟩
    rw [← eT8] at hP
    have ht := it_l ht eT8
    refine lv_aload_n hx hb dX5_perform_81 rfl (lv_at hl 0 rfl) ?_
    refine va_get (D := D) (ci := 5) (v := .ref (d0 9)) (C := RX5) (T := TX5) (N := 11) hx hb hts hi5 hown hE.1 hP 0 rfl rfl 8 (by decide) hw5 (fun _ h9 => h9) rfl dX5_perform_82 ?_
    refine lv_aload_n hx hb dX5_perform_85 rfl (lv_at hl 1 rfl) ?_
    refine va_get (D := D) (ci := 0) (v := .int (S1 1 0)) (C := RX0) (T := TX0) (N := 3) hx hb hts hi0 hown hE.1 hP 10 rfl rfl 1 (by decide) hw3 (fun _ h9 => h9) rfl dX5_perform_86 ?_
    refine lv_iconst (v := 1) hx hb dX5_perform_89 (by decide) ?_
    refine va_zast hx hb hE.1 hP (hD _ _) hS 9 1 rfl rfl (q_in g7) dX5_perform_90 (fun H locs hP _ hS => ?_)
    have hP : va_P D vwCl (wg5 cI cZ d0 (q_su T8 8 ((S1 1 0).toNatClampNeg) (vp_nar .boolean 1)) ++ (wg0 cI cZ d1 S1)) H := hP
    obtain ⟨T9, eT9⟩ : ∃ z : St, z = q_su T8 8 ((S1 1 0).toNatClampNeg) (vp_nar .boolean 1) := ⟨_, rfl⟩
    rw [← eT9] at hP
    have ht := it_l ht eT9
    refine lv_iconst (v := 0) hx hb dX5_perform_91 (by decide) ?_
    obtain rfl := Option.some.inj ht
    exact W.iret (v := 0) hx hb hr (fun t e1 hW => ⟨⟨_, (), rfl, ⟨rfl, trivial⟩, q_at e1 hP⟩, hS.F e1⟩) hS.2.2 dX5_perform_92
  have ht := it_n c6 ht
  by_cases c10 : S1 0 0 = 3
  · have ht := it_p c10 ht
    refine lv_tableIn (tgt := 93) hx hb dX5_perform_4 (by rw [c10]; decide) (by rw [c10]; decide) (by rw [c10]; rfl) (by decide) ?_
    refine lv_aload_n hx hb dX5_perform_93 rfl (lv_at hl 0 rfl) ?_
    refine lv_aload_n hx hb dX5_perform_94 rfl (lv_at hl 1 rfl) ?_
    refine va_get (D := D) (ci := 0) (v := .int (S1 1 0)) (C := RX0) (T := TX0) (N := 3) hx hb hts hi0 hown hE.1 hP 10 rfl rfl 1 (by decide) hw3 (fun _ h9 => h9) rfl dX5_perform_95 ?_
    refine lv_aload_n hx hb dX5_perform_98 rfl (lv_at hl 1 rfl) ?_
    refine va_get (D := D) (ci := 0) (v := .int (S1 2 0)) (C := RX0) (T := TX0) (N := 3) hx hb hts hi0 hown hE.1 hP 10 rfl rfl 2 (by decide) hw2 (fun _ h9 => h9) rfl dX5_perform_99 ?_
    obtain ⟨q11, hq11, ht⟩ := it_b ht
    have hPc : va_P D vwCl (wg5 cI cZ d0 S0) s.heap := hP.sub [0, 1, 2, 3, 4, 5, 6, 7, 8, 9] rfl
    have hDc : va_D A (wg5 cI cZ d0 S0) := ((hD S0 S1)).sub [0, 1, 2, 3, 4, 5, 6, 7, 8, 9] (by decide) rfl
    have hFc := va_free (wc := (wg5 cI cZ d0 S0)) (hD S0 S1) hS hA [0, 1, 2, 3, 4, 5, 6, 7, 8, 9] rfl
    refine q_mv (va_runV (As := [.int (S1 1 0), .int (S1 2 0)]) (rest := []) ⟨hx, hb, hml, hown, hts⟩ (kX5_readStone l D cI cZ cO d0 s.heap.size S0 (S1 1 0) (S1 2 0) q11 hq11) (cwV 2 hts gX5_perform_X5_readStone rfl rfl rfl (by decide +kernel) ⟨Nat.le_of_ble_eq_true rfl, Nat.le_of_ble_eq_true rfl⟩) (q_mV (As := [.int (S1 1 0), .int (S1 2 0)]) hE hPc hDc (q0 := 0) (ci := 5) rfl rfl) rfl rfl hl.1 rfl (lv_room (Nat.le_of_ble_eq_true rfl)) dX5_perform_102 ⟨Nat.le_of_ble_eq_true rfl, Nat.le_of_ble_eq_true rfl⟩) hS hFc (fun H locs hP1 hk hS => ?_)
    have hP : va_P D vwCl (wg5 cI cZ d0 q11 ++ (wg0 cI cZ d1 S1)) H := (q_join (wr := (wg0 cI cZ d1 S1)) hP (hD S0 S1) [0, 1, 2, 3, 4, 5, 6, 7, 8, 9] [10] rfl rfl (by decide) (by decide) hk hFc hP1 hDc rfl).sub [1, 2, 3, 4, 5, 6, 7, 8, 9, 10, 0] rfl
    refine lv_iconst (v := 0) hx hb dX5_perform_105 (by decide) ?_
    obtain rfl := Option.some.inj ht
    exact W.iret (v := 0) hx hb hr (fun t e1 hW => ⟨⟨_, (), rfl, ⟨rfl, trivial⟩, q_at e1 hP⟩, hS.F e1⟩) hS.2.2 dX5_perform_106
  have ht := it_n c10 ht
  refine lv_tableOut (tgt := 107) hx hb dX5_perform_4 (by have n0 := lv_neT c1 (show (0 : Int32).toInt = 0 by decide); have n1 := lv_neT c4 (show (1 : Int32).toInt = 1 by decide); have n2 := lv_neT c6 (show (2 : Int32).toInt = 2 by decide); have n3 := lv_neT c10 (show (3 : Int32).toInt = 3 by decide); omega) (by decide) ?_
  refine lv_aload_n hx hb dX5_perform_107 rfl (lv_at hl 0 rfl) ?_
  obtain ⟨q12, hq12, ht⟩ := it_b ht
  have hPc : va_P D vwCl (wg5 cI cZ d0 S0) s.heap := hP.sub [0, 1, 2, 3, 4, 5, 6, 7, 8, 9] rfl
  have hDc : va_D A (wg5 cI cZ d0 S0) := ((hD S0 S1)).sub [0, 1, 2, 3, 4, 5, 6, 7, 8, 9] (by decide) rfl
  have hFc := va_free (wc := (wg5 cI cZ d0 S0)) (hD S0 S1) hS hA [0, 1, 2, 3, 4, 5, 6, 7, 8, 9] rfl
  refine q_mi (va_runV (As := []) (rest := []) ⟨hx, hb, hml, hown, hts⟩ (kX5_passSecond l D cI cZ cO d0 s.heap.size S0 q12 hq12) (cwV 0 hts gX5_perform_X5_passSecond rfl rfl rfl (by decide +kernel) ⟨Nat.le_of_ble_eq_true rfl, Nat.le_of_ble_eq_true rfl⟩) (q_mV (As := []) hE hPc hDc (q0 := 0) (ci := 5) rfl rfl) rfl rfl hl.1 rfl (lv_room (Nat.le_of_ble_eq_true rfl)) dX5_perform_108 ⟨Nat.le_of_ble_eq_true rfl, Nat.le_of_ble_eq_true rfl⟩) hS hFc (fun H locs b13 hP1 hk hS => ?_)
  have hP : va_P D vwCl (wg5 cI cZ d0 q12.2 ++ (wg0 cI cZ d1 S1)) H := (q_join (wr := (wg0 cI cZ d1 S1)) hP (hD S0 S1) [0, 1, 2, 3, 4, 5, 6, 7, 8, 9] [10] rfl rfl (by decide) (by decide) hk hFc hP1 hDc rfl).sub [1, 2, 3, 4, 5, 6, 7, 8, 9, 10, 0] rfl
  obtain rfl := Option.some.inj ht
  exact W.iret (v := q12.1) hx hb hr (fun t e1 hW => ⟨⟨_, (), rfl, ⟨rfl, trivial⟩, q_at e1 hP⟩, hS.F e1⟩) hS.2.2 dX5_perform_111
abbrev rmJ6_numberOfTrailingZeros_0f7a4 : Room := { frames := 0, cells := 0, slots := 0, locals := 0 }
set_option maxHeartbeats 4000000 in
set_option maxRecDepth 100000 in
theorem kJ6_numberOfTrailingZeros_0f7a4 (l : Launch) (D : va_G) (cI cZ cO : ClassId) (p0 : Int32) : Met l yJ6_numberOfTrailingZeros_0f7a4 wsJ6_numberOfTrailingZeros_0f7a4 rmJ6_numberOfTrailingZeros_0f7a4 (q_PR D cI cZ cO [.int p0] ([] : va_W)) (vp_Si (fun x => x = xJ6_numberOfTrailingZeros_0f7a4 p0 ∧ True)) 0 0 (fun _ => False) := by
  refine Met.ofW (cc := cJ6_numberOfTrailingZeros_0f7a4) (maxL := 2) (ret := (some .int)) (by decide) rfl ?_
  intro p e s m args below meth c s₁ B hml hv
  obtain ⟨rfl, hE, hP⟩ := hv
  have hx := B.exec
  have hb := B.bytes
  have hr := B.returns
  have hts := atoms_spec (ws := wsJ6_numberOfTrailingZeros_0f7a4) B.pre
  have hown : s.vm.findClass RJ6 = some m.cls := findClass_of_methodNamed B.named
  have hlocks := B.notSynchronized
  have hw0 := hts (.constant RJ6 264 (65536)) (by decide +kernel)
  have hl := lv_entry ([.int p0]) (n := 2) (Nat.le_of_ble_eq_true rfl)
  rw [lg_entry_eq]
  generalize (lg_sl ([.int p0]) ++ List.replicate (2 - (lg_sl ([.int p0])).length) Slot.unset).toArray = ls at hl ⊢
  have hl : lv_has ls 2 [(0, .int p0)] := hl
  have ht := xJ6_numberOfTrailingZeros_0f7a4_s p0
  obtain ⟨tg, htg⟩ : ∃ z, z = xJ6_numberOfTrailingZeros_0f7a4 p0 := ⟨_, rfl⟩
  rw [← htg] at ht ⊢
  have ht := ht.symm
  obtain ⟨Q, hQ⟩ : ∃ Q, Q = MQ below (vp_Si (fun x => x = tg ∧ True)) ([.int p0] : List Value).toArray s 0 0 (fun _ => False) := ⟨_, rfl⟩
  rw [← hQ]
  have J34 : ∀ (x0 : Int32) (x1 : Int32) (ls : Array Slot) (_ : lv_has ls 2 [(0, .int x0), (1, .int x1)]) (_ : xJ6_numberOfTrailingZeros_0f7a4_h34 x0 x1 = tg), W p l e (headSpec wsJ6_numberOfTrailingZeros_0f7a4 rmJ6_numberOfTrailingZeros_0f7a4).room s m ([.int p0] : List Value).toArray below meth c s.heap [] 0 0 Q (F0 m 34 ls []) := by
    intro x0 x1 ls hl ht
    have ht := (xJ6_numberOfTrailingZeros_0f7a4_h34_s x0 x1).symm.trans ht
    have J49 : ∀ (x0 : Int32) (x1 : Int32) (ls : Array Slot) (_ : lv_has ls 2 [(0, .int x0), (1, .int x1)]) (_ : xJ6_numberOfTrailingZeros_0f7a4_h49 x0 x1 = tg), W p l e (headSpec wsJ6_numberOfTrailingZeros_0f7a4 rmJ6_numberOfTrailingZeros_0f7a4).room s m ([.int p0] : List Value).toArray below meth c s.heap [] 0 0 Q (F0 m 49 ls []) := by
      intro x0 x1 ls hl ht
      have ht := (xJ6_numberOfTrailingZeros_0f7a4_h49_s x0 x1).symm.trans ht
      have J62 : ∀ (x0 : Int32) (x1 : Int32) (ls : Array Slot) (_ : lv_has ls 2 [(0, .int x0), (1, .int x1)]) (_ : xJ6_numberOfTrailingZeros_0f7a4_h62 x0 x1 = tg), W p l e (headSpec wsJ6_numberOfTrailingZeros_0f7a4 rmJ6_numberOfTrailingZeros_0f7a4).room s m ([.int p0] : List Value).toArray below meth c s.heap [] 0 0 Q (F0 m 62 ls []) := by
        intro x0 x1 ls hl ht
        have ht := (xJ6_numberOfTrailingZeros_0f7a4_h62_s x0 x1).symm.trans ht
        refine lv_iload_n hx hb dJ6_numberOfTrailingZeros_0f7a4_62 rfl (lv_at hl 0 rfl) ?_
        refine lv_iconst (v := 4) hx hb dJ6_numberOfTrailingZeros_0f7a4_63 (by decide) ?_
        refine lv_icmp_le (tgt := 74) hx hb dJ6_numberOfTrailingZeros_0f7a4_64 (by decide) (fun c5 => ?_) (fun c5 => ?_)
        · have ht := it_p c5 ht
          refine lv_iload_n hx hb dJ6_numberOfTrailingZeros_0f7a4_74 rfl (lv_at hl 1 rfl) ?_
          refine lv_iload_n hx hb dJ6_numberOfTrailingZeros_0f7a4_75 rfl (lv_at hl 0 rfl) ?_
          refine lv_iconst (v := 1) hx hb dJ6_numberOfTrailingZeros_0f7a4_76 (by decide) ?_
          refine q_iushr hx hb dJ6_numberOfTrailingZeros_0f7a4_77 ?_
          refine lv_iadd hx hb dJ6_numberOfTrailingZeros_0f7a4_78 ?_
          subst hQ
          exact W.iret (v := x1 + (q_ushr x0 1)) hx hb hr (fun t e1 hW => ⟨_, rfl, ⟨ht, trivial⟩, e1⟩) (fun q h => absurd h List.not_mem_nil) dJ6_numberOfTrailingZeros_0f7a4_79
        · have ht := it_n c5 ht
          refine lv_iinc (v := x1 + 2) (lv' := [(1, .int (x1 + 2)), (0, .int x0)]) hx hb dJ6_numberOfTrailingZeros_0f7a4_67 hl (k := 1) rfl rfl (by decide) rfl (fun ls hl => ?_)
          refine lv_iload_n hx hb dJ6_numberOfTrailingZeros_0f7a4_70 rfl (lv_at hl 1 rfl) ?_
          refine lv_iconst (v := 2) hx hb dJ6_numberOfTrailingZeros_0f7a4_71 (by decide) ?_
          refine q_iushr hx hb dJ6_numberOfTrailingZeros_0f7a4_72 ?_
          refine lv_istore_n (lv' := [(0, .int (q_ushr x0 2)), (1, .int (x1 + 2))]) hx hb dJ6_numberOfTrailingZeros_0f7a4_73 rfl hl (by decide) rfl (fun ls hl => ?_)
          refine lv_iload_n hx hb dJ6_numberOfTrailingZeros_0f7a4_74 rfl (lv_at hl 1 rfl) ?_
          refine lv_iload_n hx hb dJ6_numberOfTrailingZeros_0f7a4_75 rfl (lv_at hl 0 rfl) ?_
          refine lv_iconst (v := 1) hx hb dJ6_numberOfTrailingZeros_0f7a4_76 (by decide) ?_
          refine q_iushr hx hb dJ6_numberOfTrailingZeros_0f7a4_77 ?_
          refine lv_iadd hx hb dJ6_numberOfTrailingZeros_0f7a4_78 ?_
          subst hQ
          exact W.iret (v := (x1 + 2) + (q_ushr (q_ushr x0 2) 1)) hx hb hr (fun t e1 hW => ⟨_, rfl, ⟨ht, trivial⟩, e1⟩) (fun q h => absurd h List.not_mem_nil) dJ6_numberOfTrailingZeros_0f7a4_79
      refine lv_iload_n hx hb dJ6_numberOfTrailingZeros_0f7a4_49 rfl (lv_at hl 0 rfl) ?_
      refine lv_bipush (v := 16) hx hb dJ6_numberOfTrailingZeros_0f7a4_50 (by decide) ?_
      refine lv_icmp_le (tgt := 62) hx hb dJ6_numberOfTrailingZeros_0f7a4_52 (by decide) (fun c4 => ?_) (fun c4 => ?_)
      · have ht := it_p c4 ht
        exact J62 x0 x1 ls (lv_sub hl [0, 1] rfl) ht
      · have ht := it_n c4 ht
        refine lv_iinc (v := x1 + 4) (lv' := [(1, .int (x1 + 4)), (0, .int x0)]) hx hb dJ6_numberOfTrailingZeros_0f7a4_55 hl (k := 1) rfl rfl (by decide) rfl (fun ls hl => ?_)
        refine lv_iload_n hx hb dJ6_numberOfTrailingZeros_0f7a4_58 rfl (lv_at hl 1 rfl) ?_
        refine lv_iconst (v := 4) hx hb dJ6_numberOfTrailingZeros_0f7a4_59 (by decide) ?_
        refine q_iushr hx hb dJ6_numberOfTrailingZeros_0f7a4_60 ?_
        refine lv_istore_n (lv' := [(0, .int (q_ushr x0 4)), (1, .int (x1 + 4))]) hx hb dJ6_numberOfTrailingZeros_0f7a4_61 rfl hl (by decide) rfl (fun ls hl => ?_)
        exact J62 (q_ushr x0 4) (x1 + 4) ls (lv_sub hl [0, 1] rfl) ht
    refine lv_iload_n hx hb dJ6_numberOfTrailingZeros_0f7a4_34 rfl (lv_at hl 0 rfl) ?_
    refine lv_sipush (v := 256) hx hb dJ6_numberOfTrailingZeros_0f7a4_35 (by decide +kernel) ?_
    refine lv_icmp_le (tgt := 49) hx hb dJ6_numberOfTrailingZeros_0f7a4_38 (by decide) (fun c3 => ?_) (fun c3 => ?_)
    · have ht := it_p c3 ht
      exact J49 x0 x1 ls (lv_sub hl [0, 1] rfl) ht
    · have ht := it_n c3 ht
      refine lv_iinc (v := x1 + 8) (lv' := [(1, .int (x1 + 8)), (0, .int x0)]) hx hb dJ6_numberOfTrailingZeros_0f7a4_41 hl (k := 1) rfl rfl (by decide) rfl (fun ls hl => ?_)
      refine lv_iload_n hx hb dJ6_numberOfTrailingZeros_0f7a4_44 rfl (lv_at hl 1 rfl) ?_
      refine lv_bipush (v := 8) hx hb dJ6_numberOfTrailingZeros_0f7a4_45 (by decide) ?_
      refine q_iushr hx hb dJ6_numberOfTrailingZeros_0f7a4_47 ?_
      refine lv_istore_n (lv' := [(0, .int (q_ushr x0 8)), (1, .int (x1 + 8))]) hx hb dJ6_numberOfTrailingZeros_0f7a4_48 rfl hl (by decide) rfl (fun ls hl => ?_)
      exact J49 (q_ushr x0 8) (x1 + 8) ls (lv_sub hl [0, 1] rfl) ht
  refine lv_iload_n hx hb dJ6_numberOfTrailingZeros_0f7a4_0 rfl (lv_at hl 0 rfl) ?_
  refine lv_iconst (v := (-1)) hx hb dJ6_numberOfTrailingZeros_0f7a4_1 (by decide) ?_
  refine lv_ixor hx hb dJ6_numberOfTrailingZeros_0f7a4_2 ?_
  refine lv_iload_n hx hb dJ6_numberOfTrailingZeros_0f7a4_3 rfl (lv_at hl 0 rfl) ?_
  refine lv_iconst (v := 1) hx hb dJ6_numberOfTrailingZeros_0f7a4_4 (by decide) ?_
  refine lv_isub hx hb dJ6_numberOfTrailingZeros_0f7a4_5 ?_
  refine lv_iand hx hb dJ6_numberOfTrailingZeros_0f7a4_6 ?_
  refine lv_istore_n (lv' := [(0, .int ((p0 ^^^ (-1)) &&& (p0 - 1)))]) hx hb dJ6_numberOfTrailingZeros_0f7a4_7 rfl hl (by decide) rfl (fun ls hl => ?_)
  refine lv_iload_n hx hb dJ6_numberOfTrailingZeros_0f7a4_8 rfl (lv_at hl 0 rfl) ?_
  refine lv_if_gt (tgt := 17) hx hb dJ6_numberOfTrailingZeros_0f7a4_9 (by decide) (fun c1 => ?_) (fun c1 => ?_)
  · have ht := it_p c1 ht
    refine lv_iconst (v := 1) hx hb dJ6_numberOfTrailingZeros_0f7a4_17 (by decide) ?_
    refine lv_istore_n (lv' := [(1, .int 1), (0, .int ((p0 ^^^ (-1)) &&& (p0 - 1)))]) hx hb dJ6_numberOfTrailingZeros_0f7a4_18 rfl hl (by decide) rfl (fun ls hl => ?_)
    refine lv_iload_n hx hb dJ6_numberOfTrailingZeros_0f7a4_19 rfl (lv_at hl 1 rfl) ?_
    refine lv_ldcw hx hb hown hw0 dJ6_numberOfTrailingZeros_0f7a4_20 ?_
    refine lv_icmp_le (tgt := 34) hx hb dJ6_numberOfTrailingZeros_0f7a4_23 (by decide) (fun c2 => ?_) (fun c2 => ?_)
    · have ht := it_p c2 ht
      exact J34 ((p0 ^^^ (-1)) &&& (p0 - 1)) 1 ls (lv_sub hl [1, 0] rfl) ht
    · have ht := it_n c2 ht
      refine lv_iinc (v := 1 + 16) (lv' := [(1, .int (1 + 16)), (0, .int ((p0 ^^^ (-1)) &&& (p0 - 1)))]) hx hb dJ6_numberOfTrailingZeros_0f7a4_26 hl (k := 0) rfl rfl (by decide) rfl (fun ls hl => ?_)
      refine lv_iload_n hx hb dJ6_numberOfTrailingZeros_0f7a4_29 rfl (lv_at hl 1 rfl) ?_
      refine lv_bipush (v := 16) hx hb dJ6_numberOfTrailingZeros_0f7a4_30 (by decide) ?_
      refine q_iushr hx hb dJ6_numberOfTrailingZeros_0f7a4_32 ?_
      refine lv_istore_n (lv' := [(0, .int (q_ushr ((p0 ^^^ (-1)) &&& (p0 - 1)) 16)), (1, .int (1 + 16))]) hx hb dJ6_numberOfTrailingZeros_0f7a4_33 rfl hl (by decide) rfl (fun ls hl => ?_)
      exact J34 (q_ushr ((p0 ^^^ (-1)) &&& (p0 - 1)) 16) (1 + 16) ls (lv_sub hl [0, 1] rfl) ht
  · have ht := it_n c1 ht
    refine lv_iload_n hx hb dJ6_numberOfTrailingZeros_0f7a4_12 rfl (lv_at hl 0 rfl) ?_
    refine lv_bipush (v := 32) hx hb dJ6_numberOfTrailingZeros_0f7a4_13 (by decide) ?_
    refine lv_iand hx hb dJ6_numberOfTrailingZeros_0f7a4_15 ?_
    subst hQ
    exact W.iret (v := ((p0 ^^^ (-1)) &&& (p0 - 1)) &&& 32) hx hb hr (fun t e1 hW => ⟨_, rfl, ⟨ht, trivial⟩, e1⟩) (fun q h => absurd h List.not_mem_nil) dJ6_numberOfTrailingZeros_0f7a4_16
abbrev rmX3_noteLoss : Room := { frames := 1, cells := 0, slots := 0, locals := 21 }
set_option maxHeartbeats 4000000 in
set_option maxRecDepth 100000 in
theorem kX3_noteLoss (l : Launch) (D : va_G) (cI cZ cO : ClassId) (d0 : Nat → Nat) (d1 : Nat → Nat) (d2 : Nat → Nat) (sz : Nat) (S0 : St) (p0 : Int32) (tg : St) (ht : xX3_noteLoss p0 S0 = some tg) : Met l yX3_noteLoss wsX3_noteLoss rmX3_noteLoss (q_PM D cI cZ cO [.ref (d0 0), .int p0] sz (wg3 d0 d1 d2 S0)) (va_Qv (fun _ : Unit => True) (fun _ t => va_P D vwCl (wg3 d0 d1 d2 tg) t.heap) (va_A (wg3 d0 d1 d2 S0) sz)) 0 0 (va_A (wg3 d0 d1 d2 S0) sz) := by
  refine Met.ofW (cc := cX3_noteLoss) (maxL := 2) (ret := none) (by decide) rfl ?_
  intro p e s m args below meth c s₁ B hml hv
  obtain ⟨rfl, hsz, hE, hP, hD0⟩ := hv
  have hx := B.exec
  have hb := B.bytes
  have hr := B.returns
  have hts := atoms_spec (ws := wsX3_noteLoss) B.pre
  have hown : s.vm.findClass RX3 = some m.cls := findClass_of_methodNamed B.named
  have hlocks := B.notSynchronized
  have hi3 : ∀ w ∈ u_ws RX3 TX3 8, w ∈ wsX3_noteLoss := by decide +kernel
  have hw0 := hts (.fieldLink RX3 35 "HailNames$Outcome" "stonesLost" "I") (by decide +kernel)
  have hw1 := hts (.fieldLink RX3 38 "HailNames$Outcome" "lossAct" "I") (by decide +kernel)
  have hw2 := hts (.fieldLink RX3 25 "HailNames$Outcome" "acts" "I") (by decide +kernel)
  have hw3 := hts (.fieldLink RX3 41 "HailNames$Outcome" "lossPerson" "I") (by decide +kernel)
  subst hsz
  have hD1 := hD0.self (sz := s.heap.size)
  generalize hAe : va_A (wg3 d0 d1 d2 S0) s.heap.size = A at hD1 ⊢
  have hA : ∀ q : Nat, s.heap.size ≤ q → A q := fun q h => by rw [← hAe]; exact Or.inr h
  have hS : va_S A s.heap s.heap [] := va_S.rf
  have hD : ∀ (S0 : St), va_D A (wg3 d0 d1 d2 S0) := fun S0 => q_D hD1 rfl
  have hl := lv_entry ([.ref (d0 0), .int p0]) (n := 2) (Nat.le_of_ble_eq_true rfl)
  rw [lg_entry_eq]
  generalize (lg_sl ([.ref (d0 0), .int p0]) ++ List.replicate (2 - (lg_sl ([.ref (d0 0), .int p0])).length) Slot.unset).toArray = ls at hl ⊢
  have hl : lv_has ls 2 [(0, .ref (d0 0)), (1, .int p0)] := hl
  have ht := (xX3_noteLoss_s p0 S0).symm.trans ht
  refine lv_aload_n hx hb dX3_noteLoss_0 rfl (lv_at hl 0 rfl) ?_
  refine lv_dup hx hb dX3_noteLoss_1 rfl ?_
  refine va_get (D := D) (ci := 3) (v := .int (S0 5 0)) (C := RX3) (T := TX3) (N := 8) hx hb hts hi3 hown hE.1 hP 0 rfl rfl 5 (by decide) hw0 (fun _ h9 => h9) rfl dX3_noteLoss_2 ?_
  refine lv_iload_n hx hb dX3_noteLoss_5 rfl (lv_at hl 1 rfl) ?_
  refine q_ri (va_runS (As := [.int p0]) (rest := [.int (S0 5 0), .ref (d0 0)]) ⟨hx, hb, hml, hown, hts⟩ (kJ6_bitCount_0f7a4 l D cI cZ cO p0) (va_cwS 1 hts gX3_noteLoss_J6_bitCount_0f7a4 rfl rfl rfl (by decide +kernel) ⟨Nat.le_of_ble_eq_true rfl, Nat.le_of_ble_eq_true rfl⟩) (q_rS hE q_nil) rfl rfl hl.1 rfl (lv_room (Nat.le_of_ble_eq_true rfl)) dX3_noteLoss_6 ⟨Nat.le_of_ble_eq_true rfl, Nat.le_of_ble_eq_true rfl⟩) (fun b1 => ?_)
  refine lv_iadd hx hb dX3_noteLoss_9 ?_
  refine va_put (D := D) (ci := 3) (v := .int ((S0 5 0) + (xJ6_bitCount_0f7a4 p0))) (ty := .int) (C := RX3) (T := TX3) (N := 8) hx hb hts hi3 tyX3 tyX3_ok nmX3 hown hE.1 hP (hD _) hS 0 rfl rfl 5 (by decide) hw0 (fun _ h9 => h9) rfl (by decide +kernel) rfl rfl (Nat.le_of_ble_eq_true rfl) dX3_noteLoss_10 (fun H locs hP _ hS => ?_)
  have hP : va_P D vwCl (wg3 d0 d1 d2 (q_su S0 5 0 ((S0 5 0) + (xJ6_bitCount_0f7a4 p0)))) H := hP
  obtain ⟨T2, eT2⟩ : ∃ z : St, z = q_su S0 5 0 ((S0 5 0) + (xJ6_bitCount_0f7a4 p0)) := ⟨_, rfl⟩
  rw [← eT2] at hP
  have ht := it_l ht eT2
  refine lv_iload_n hx hb dX3_noteLoss_13 rfl (lv_at hl 1 rfl) ?_
  refine lv_if_eq (tgt := 42) hx hb dX3_noteLoss_14 (by decide) (fun c3 => ?_) (fun c3 => ?_)
  · have ht := it_p c3 ht
    obtain rfl := Option.some.inj ht
    exact W.vret hx hb hr (fun t e1 hW => ⟨⟨(), rfl, trivial, q_at e1 hP⟩, hS.F e1⟩) hS.2.2 dX3_noteLoss_42
  · have ht := it_n c3 ht
    refine lv_aload_n hx hb dX3_noteLoss_17 rfl (lv_at hl 0 rfl) ?_
    refine va_get (D := D) (ci := 3) (v := .int (T2 6 0)) (C := RX3) (T := TX3) (N := 8) hx hb hts hi3 hown hE.1 hP 0 rfl rfl 6 (by decide) hw1 (fun _ h9 => h9) rfl dX3_noteLoss_18 ?_
    refine lv_bipush (v := (-6)) hx hb dX3_noteLoss_21 (by decide) ?_
    refine lv_icmp_ne (tgt := 42) hx hb dX3_noteLoss_23 (by decide) (fun c4 => ?_) (fun c4 => ?_)
    · have ht := it_n c4 ht
      obtain rfl := Option.some.inj ht
      exact W.vret hx hb hr (fun t e1 hW => ⟨⟨(), rfl, trivial, q_at e1 hP⟩, hS.F e1⟩) hS.2.2 dX3_noteLoss_42
    · have ht := it_p c4 ht
      refine lv_aload_n hx hb dX3_noteLoss_26 rfl (lv_at hl 0 rfl) ?_
      refine lv_aload_n hx hb dX3_noteLoss_27 rfl (lv_at hl 0 rfl) ?_
      refine va_get (D := D) (ci := 3) (v := .int (T2 2 0)) (C := RX3) (T := TX3) (N := 8) hx hb hts hi3 hown hE.1 hP 0 rfl rfl 2 (by decide) hw2 (fun _ h9 => h9) rfl dX3_noteLoss_28 ?_
      refine va_put (D := D) (ci := 3) (v := .int (T2 2 0)) (ty := .int) (C := RX3) (T := TX3) (N := 8) hx hb hts hi3 tyX3 tyX3_ok nmX3 hown hE.1 hP (hD _) hS 0 rfl rfl 6 (by decide) hw1 (fun _ h9 => h9) rfl (by decide +kernel) rfl rfl (Nat.le_of_ble_eq_true rfl) dX3_noteLoss_31 (fun H locs hP _ hS => ?_)
      have hP : va_P D vwCl (wg3 d0 d1 d2 (q_su T2 6 0 (T2 2 0))) H := hP
      obtain ⟨T5, eT5⟩ : ∃ z : St, z = q_su T2 6 0 (T2 2 0) := ⟨_, rfl⟩
      rw [← eT5] at hP
      have ht := it_l ht eT5
      refine lv_aload_n hx hb dX3_noteLoss_34 rfl (lv_at hl 0 rfl) ?_
      refine lv_iload_n hx hb dX3_noteLoss_35 rfl (lv_at hl 1 rfl) ?_
      refine q_ri (va_runS (As := [.int p0]) (rest := [.ref (d0 0)]) ⟨hx, hb, hml, hown, hts⟩ (kJ6_numberOfTrailingZeros_0f7a4 l D cI cZ cO p0) (va_cwS 1 hts gX3_noteLoss_J6_numberOfTrailingZeros_0f7a4 rfl rfl rfl (by decide +kernel) ⟨Nat.le_of_ble_eq_true rfl, Nat.le_of_ble_eq_true rfl⟩) (q_rS hE q_nil) rfl rfl hl.1 rfl (lv_room (Nat.le_of_ble_eq_true rfl)) dX3_noteLoss_36 ⟨Nat.le_of_ble_eq_true rfl, Nat.le_of_ble_eq_true rfl⟩) (fun b6 => ?_)
      refine va_put (D := D) (ci := 3) (v := .int (xJ6_numberOfTrailingZeros_0f7a4 p0)) (ty := .int) (C := RX3) (T := TX3) (N := 8) hx hb hts hi3 tyX3 tyX3_ok nmX3 hown hE.1 hP (hD _) hS 0 rfl rfl 7 (by decide) hw3 (fun _ h9 => h9) rfl (by decide +kernel) rfl rfl (Nat.le_of_ble_eq_true rfl) dX3_noteLoss_39 (fun H locs hP _ hS => ?_)
      have hP : va_P D vwCl (wg3 d0 d1 d2 (q_su T5 7 0 (xJ6_numberOfTrailingZeros_0f7a4 p0))) H := hP
      obtain ⟨T7, eT7⟩ : ∃ z : St, z = q_su T5 7 0 (xJ6_numberOfTrailingZeros_0f7a4 p0) := ⟨_, rfl⟩
      rw [← eT7] at hP
      have ht := it_l ht eT7
      obtain rfl := Option.some.inj ht
      exact W.vret hx hb hr (fun t e1 hW => ⟨⟨(), rfl, trivial, q_at e1 hP⟩, hS.F e1⟩) hS.2.2 dX3_noteLoss_42
abbrev rmX3_tryAct : Room := { frames := 3, cells := 0, slots := 0, locals := 68 }
set_option maxHeartbeats 4000000 in
set_option maxRecDepth 100000 in
theorem kX3_tryAct (l : Launch) (D : va_G) (cI cZ cO : ClassId) (d0 : Nat → Nat) (d1 : Nat → Nat) (d2 : Nat → Nat) (sz : Nat) (S0 : St) (S1 : St) (S2 : St) (tg : Int32 × St × St) (ht : xX3_tryAct S2 S0 S1 = some tg) : Met l yX3_tryAct wsX3_tryAct rmX3_tryAct (q_PM D cI cZ cO [.ref (d0 0)] sz (wg3 d0 d1 d2 S0 ++ (wg5 cI cZ d1 S1 ++ (wg0 cI cZ d2 S2)))) (va_Qi (fun x (_ : Unit) => x = tg.1 ∧ True) (fun _ t => va_P D vwCl (wg3 d0 d1 d2 tg.2.1 ++ (wg5 cI cZ d1 tg.2.2 ++ (wg0 cI cZ d2 S2))) t.heap) (va_A (wg3 d0 d1 d2 S0 ++ (wg5 cI cZ d1 S1 ++ (wg0 cI cZ d2 S2))) sz)) 0 0 (va_A (wg3 d0 d1 d2 S0 ++ (wg5 cI cZ d1 S1 ++ (wg0 cI cZ d2 S2))) sz) := by
  refine Met.ofW (cc := cX3_tryAct) (maxL := 2) (ret := (some .int)) (by decide) rfl ?_
  intro p e s m args below meth c s₁ B hml hv
  obtain ⟨rfl, hsz, hE, hP, hD0⟩ := hv
  have hx := B.exec
  have hb := B.bytes
  have hr := B.returns
  have hts := atoms_spec (ws := wsX3_tryAct) B.pre
  have hown : s.vm.findClass RX3 = some m.cls := findClass_of_methodNamed B.named
  have hlocks := B.notSynchronized
  have hi3 : ∀ w ∈ u_ws RX3 TX3 8, w ∈ wsX3_tryAct := by decide +kernel
  have hw0 := hts (.fieldLink RX3 21 "HailNames$Outcome" "act" "LHailNames$Act;") (by decide +kernel)
  have hw1 := hts (.fieldLink RX3 12 "HailNames$Outcome" "after" "LHailNames$Plain;") (by decide +kernel)
  have hw2 := hts (.fieldLink RX3 25 "HailNames$Outcome" "acts" "I") (by decide +kernel)
  subst hsz
  have hD1 := hD0.self (sz := s.heap.size)
  generalize hAe : va_A (wg3 d0 d1 d2 S0 ++ (wg5 cI cZ d1 S1 ++ (wg0 cI cZ d2 S2))) s.heap.size = A at hD1 ⊢
  have hA : ∀ q : Nat, s.heap.size ≤ q → A q := fun q h => by rw [← hAe]; exact Or.inr h
  have hS : va_S A s.heap s.heap [] := va_S.rf
  have hD : ∀ (S0 : St) (S1 : St) (S2 : St), va_D A (wg3 d0 d1 d2 S0 ++ (wg5 cI cZ d1 S1 ++ (wg0 cI cZ d2 S2))) := fun S0 S1 S2 => q_D hD1 rfl
  have hl := lv_entry ([.ref (d0 0)]) (n := 2) (Nat.le_of_ble_eq_true rfl)
  rw [lg_entry_eq]
  generalize (lg_sl ([.ref (d0 0)]) ++ List.replicate (2 - (lg_sl ([.ref (d0 0)])).length) Slot.unset).toArray = ls at hl ⊢
  have hl : lv_has ls 2 [(0, .ref (d0 0))] := hl
  have ht := (xX3_tryAct_s S2 S0 S1).symm.trans ht
  obtain ⟨Q, hQ⟩ : ∃ Q, Q = MQ below (va_Qi (fun x (_ : Unit) => x = tg.1 ∧ True) (fun _ t => va_P D vwCl (wg3 d0 d1 d2 tg.2.1 ++ (wg5 cI cZ d1 tg.2.2 ++ (wg0 cI cZ d2 S2))) t.heap) A) ([.ref (d0 0)] : List Value).toArray s 0 0 A := ⟨_, rfl⟩
  rw [← hQ]
  have J26 : ∀ (z0 : Int32) (S0 : St) (S1 : St) (H : Heap) (locs : List Loc) (_ : va_P D vwCl (wg3 d0 d1 d2 S0 ++ (wg5 cI cZ d1 S1 ++ (wg0 cI cZ d2 S2))) H) (_ : va_S A s.heap H locs) (ls : Array Slot) (_ : lv_has ls 2 [(0, .ref (d0 0))]) (_ : xX3_tryAct_h26 S2 z0 S0 S1 = some tg), W p l e (headSpec wsX3_tryAct rmX3_tryAct).room s m ([.ref (d0 0)] : List Value).toArray below meth c H locs 0 0 Q (F0 m 26 ls [.int z0]) := by
    intro z0 S0 S1 H locs hP hS ls hl ht
    have ht := (xX3_tryAct_h26_s S2 z0 S0 S1).symm.trans ht
    refine lv_istore_n (lv' := [(1, .int z0), (0, .ref (d0 0))]) hx hb dX3_tryAct_26 rfl hl (by decide) rfl (fun ls hl => ?_)
    refine lv_iload_n hx hb dX3_tryAct_27 rfl (lv_at hl 0 rfl) ?_
    refine lv_if_ne (tgt := 56) hx hb dX3_tryAct_28 (by decide) (fun c6 => ?_) (fun c6 => ?_)
    · have ht := it_n c6 ht
      refine lv_iload_n hx hb dX3_tryAct_56 rfl (lv_at hl 0 rfl) ?_
      subst hQ
      obtain rfl := Option.some.inj ht
      exact W.iret (v := z0) hx hb hr (fun t e1 hW => ⟨⟨_, (), rfl, ⟨rfl, trivial⟩, q_at e1 hP⟩, hS.F e1⟩) hS.2.2 dX3_tryAct_57
    · have ht := it_p c6 ht
      refine lv_aload_n hx hb dX3_tryAct_31 rfl (lv_at hl 1 rfl) ?_
      refine lv_aload_n hx hb dX3_tryAct_32 rfl (lv_at hl 1 rfl) ?_
      refine va_get (D := D) (ci := 3) (v := .ref (d1 0)) (C := RX3) (T := TX3) (N := 8) hx hb hts hi3 hown hE.1 hP 0 rfl rfl 0 (by decide) hw1 (fun _ h9 => h9) rfl dX3_tryAct_33 ?_
      refine lv_aload_n hx hb dX3_tryAct_36 rfl (lv_at hl 1 rfl) ?_
      refine va_get (D := D) (ci := 3) (v := .ref (d2 0)) (C := RX3) (T := TX3) (N := 8) hx hb hts hi3 hown hE.1 hP 0 rfl rfl 1 (by decide) hw0 (fun _ h9 => h9) rfl dX3_tryAct_37 ?_
      obtain ⟨q7, hq7, ht⟩ := it_b ht
      have hPc : va_P D vwCl (wg5 cI cZ d1 S1 ++ (wg0 cI cZ d2 S2)) H := hP.sub [1, 2, 3, 4, 5, 6, 7, 8, 9, 10, 11] rfl
      have hDc : va_D A (wg5 cI cZ d1 S1 ++ (wg0 cI cZ d2 S2)) := ((hD S0 S1 S2)).sub [1, 2, 3, 4, 5, 6, 7, 8, 9, 10, 11] (by decide) rfl
      have hFc := va_free (wc := (wg5 cI cZ d1 S1 ++ (wg0 cI cZ d2 S2))) (hD S0 S1 S2) hS hA [1, 2, 3, 4, 5, 6, 7, 8, 9, 10, 11] rfl
      refine q_mi (va_runV (As := [.ref (d2 0)]) (rest := [.ref (d0 0)]) ⟨hx, hb, hml, hown, hts⟩ (kX5_perform l D cI cZ cO d1 d2 H.size S1 S2 q7 hq7) (cwV 1 hts gX3_tryAct_X5_perform rfl rfl rfl (by decide +kernel) ⟨Nat.le_of_ble_eq_true rfl, Nat.le_of_ble_eq_true rfl⟩) (q_mV (As := [.ref (d2 0)]) hE hPc hDc (q0 := 0) (ci := 5) rfl rfl) rfl rfl hl.1 rfl (lv_room (Nat.le_of_ble_eq_true rfl)) dX3_tryAct_40 ⟨Nat.le_of_ble_eq_true rfl, Nat.le_of_ble_eq_true rfl⟩) hS hFc (fun H locs b8 hP1 hk hS => ?_)
      have hP : va_P D vwCl (wg3 d0 d1 d2 S0 ++ (wg5 cI cZ d1 q7.2 ++ (wg0 cI cZ d2 S2))) H := (q_join (wr := (wg3 d0 d1 d2 S0)) hP (hD S0 S1 S2) [1, 2, 3, 4, 5, 6, 7, 8, 9, 10, 11] [0] rfl rfl (by decide) (by decide) hk hFc hP1 hDc rfl).sub [0, 1, 2, 3, 4, 5, 6, 7, 8, 9, 10, 11] rfl
      obtain ⟨q9, hq9, ht⟩ := it_b ht
      have hPc : va_P D vwCl (wg3 d0 d1 d2 S0) H := hP.sub [0] rfl
      have hDc : va_D A (wg3 d0 d1 d2 S0) := ((hD S0 q7.2 S2)).sub [0] (by decide) rfl
      have hFc := va_free (wc := (wg3 d0 d1 d2 S0)) (hD S0 q7.2 S2) hS hA [0] rfl
      refine q_mv (va_runV (As := [.int q7.1]) (rest := []) ⟨hx, hb, hml, hown, hts⟩ (kX3_noteLoss l D cI cZ cO d0 d1 d2 H.size S0 q7.1 q9 hq9) (cwV 1 hts gX3_tryAct_X3_noteLoss rfl rfl rfl (by decide +kernel) ⟨Nat.le_of_ble_eq_true rfl, Nat.le_of_ble_eq_true rfl⟩) (q_mV (As := [.int q7.1]) hE hPc hDc (q0 := 0) (ci := 3) rfl rfl) rfl rfl hl.1 rfl (lv_room (Nat.le_of_ble_eq_true rfl)) dX3_tryAct_43 ⟨Nat.le_of_ble_eq_true rfl, Nat.le_of_ble_eq_true rfl⟩) hS hFc (fun H locs hP1 hk hS => ?_)
      have hP : va_P D vwCl (wg3 d0 d1 d2 q9 ++ (wg5 cI cZ d1 q7.2 ++ (wg0 cI cZ d2 S2))) H := (q_join (wr := (wg5 cI cZ d1 q7.2 ++ (wg0 cI cZ d2 S2))) hP (hD S0 q7.2 S2) [0] [1, 2, 3, 4, 5, 6, 7, 8, 9, 10, 11] rfl rfl (by decide) (by decide) hk hFc hP1 hDc rfl).sub [11, 0, 1, 2, 3, 4, 5, 6, 7, 8, 9, 10] rfl
      refine lv_aload_n hx hb dX3_tryAct_46 rfl (lv_at hl 1 rfl) ?_
      refine lv_dup hx hb dX3_tryAct_47 rfl ?_
      refine va_get (D := D) (ci := 3) (v := .int (q9 2 0)) (C := RX3) (T := TX3) (N := 8) hx hb hts hi3 hown hE.1 hP 0 rfl rfl 2 (by decide) hw2 (fun _ h9 => h9) rfl dX3_tryAct_48 ?_
      refine lv_iconst (v := 1) hx hb dX3_tryAct_51 (by decide) ?_
      refine lv_iadd hx hb dX3_tryAct_52 ?_
      refine va_put (D := D) (ci := 3) (v := .int ((q9 2 0) + 1)) (ty := .int) (C := RX3) (T := TX3) (N := 8) hx hb hts hi3 tyX3 tyX3_ok nmX3 hown hE.1 hP (hD _ _ _) hS 0 rfl rfl 2 (by decide) hw2 (fun _ h9 => h9) rfl (by decide +kernel) rfl rfl (Nat.le_of_ble_eq_true rfl) dX3_tryAct_53 (fun H locs hP _ hS => ?_)
      have hP : va_P D vwCl (wg3 d0 d1 d2 (q_su q9 2 0 ((q9 2 0) + 1)) ++ (wg5 cI cZ d1 q7.2 ++ (wg0 cI cZ d2 S2))) H := hP
      obtain ⟨T10, eT10⟩ : ∃ z : St, z = q_su q9 2 0 ((q9 2 0) + 1) := ⟨_, rfl⟩
      rw [← eT10] at hP
      have ht := it_l ht eT10
      refine lv_iload_n hx hb dX3_tryAct_56 rfl (lv_at hl 0 rfl) ?_
      subst hQ
      obtain rfl := Option.some.inj ht
      exact W.iret (v := z0) hx hb hr (fun t e1 hW => ⟨⟨_, (), rfl, ⟨rfl, trivial⟩, q_at e1 hP⟩, hS.F e1⟩) hS.2.2 dX3_tryAct_57
  refine lv_aload_n hx hb dX3_tryAct_0 rfl (lv_at hl 0 rfl) ?_
  refine va_get (D := D) (ci := 3) (v := .ref (d2 0)) (C := RX3) (T := TX3) (N := 8) hx hb hts hi3 hown hE.1 hP 0 rfl rfl 1 (by decide) hw0 (fun _ h9 => h9) rfl dX3_tryAct_1 ?_
  obtain ⟨q1, hq1, ht⟩ := it_b ht
  have hPc : va_P D vwCl (wg0 cI cZ d2 S2) s.heap := hP.sub [11] rfl
  refine q_ri (va_runV (As := []) (rest := []) ⟨hx, hb, hml, hown, hts⟩ (kX0_isSound l D cI cZ cO d2 S2 q1 hq1) (cwV 0 hts gX3_tryAct_X0_isSound rfl rfl rfl (by decide +kernel) ⟨Nat.le_of_ble_eq_true rfl, Nat.le_of_ble_eq_true rfl⟩) (q_rV (As := []) hE hPc (q0 := 0) (ci := 0) rfl rfl) rfl rfl hl.1 rfl (lv_room (Nat.le_of_ble_eq_true rfl)) dX3_tryAct_4 ⟨Nat.le_of_ble_eq_true rfl, Nat.le_of_ble_eq_true rfl⟩) (fun b2 => ?_)
  refine lv_if_eq (tgt := 24) hx hb dX3_tryAct_7 (by decide) (fun c3 => ?_) (fun c3 => ?_)
  · have ht := it_p c3 ht
    refine lv_bipush (v := (-5)) hx hb dX3_tryAct_24 (by decide) ?_
    exact J26 (-5) S0 S1 _ _ hP hS ls (lv_sub hl [0] rfl) ht
  · have ht := it_n c3 ht
    refine lv_aload_n hx hb dX3_tryAct_10 rfl (lv_at hl 0 rfl) ?_
    refine va_get (D := D) (ci := 3) (v := .ref (d1 0)) (C := RX3) (T := TX3) (N := 8) hx hb hts hi3 hown hE.1 hP 0 rfl rfl 0 (by decide) hw1 (fun _ h9 => h9) rfl dX3_tryAct_11 ?_
    refine lv_aload_n hx hb dX3_tryAct_14 rfl (lv_at hl 0 rfl) ?_
    refine va_get (D := D) (ci := 3) (v := .ref (d2 0)) (C := RX3) (T := TX3) (N := 8) hx hb hts hi3 hown hE.1 hP 0 rfl rfl 1 (by decide) hw0 (fun _ h9 => h9) rfl dX3_tryAct_15 ?_
    obtain ⟨q4, hq4, ht⟩ := it_b ht
    have hPc : va_P D vwCl (wg5 cI cZ d1 S1 ++ (wg0 cI cZ d2 S2)) s.heap := hP.sub [1, 2, 3, 4, 5, 6, 7, 8, 9, 10, 11] rfl
    refine q_ri (va_runV (As := [.ref (d2 0)]) (rest := []) ⟨hx, hb, hml, hown, hts⟩ (kX5_whyNot l D cI cZ cO d1 d2 S1 S2 q4 hq4) (cwV 1 hts gX3_tryAct_X5_whyNot rfl rfl rfl (by decide +kernel) ⟨Nat.le_of_ble_eq_true rfl, Nat.le_of_ble_eq_true rfl⟩) (q_rV (As := [.ref (d2 0)]) hE hPc (q0 := 0) (ci := 5) rfl rfl) rfl rfl hl.1 rfl (lv_room (Nat.le_of_ble_eq_true rfl)) dX3_tryAct_18 ⟨Nat.le_of_ble_eq_true rfl, Nat.le_of_ble_eq_true rfl⟩) (fun b5 => ?_)
    refine lv_goto (tgt := 26) hx hb dX3_tryAct_21 (by decide) ?_
    exact J26 q4 S0 S1 _ _ hP hS ls (lv_sub hl [0] rfl) ht
abbrev rmX4_signsOfAct : Room := { frames := 2, cells := 0, slots := 0, locals := 42 }
set_option maxHeartbeats 4000000 in
set_option maxRecDepth 100000 in
theorem kX4_signsOfAct (l : Launch) (D : va_G) (cI cZ cO : ClassId) (d0 : Nat → Nat) (S0 : St) (p0 : Int32) (tg : Int32) (ht : xX4_signsOfAct S0 p0 = some tg) : Met l yX4_signsOfAct wsX4_signsOfAct rmX4_signsOfAct (q_PR D cI cZ cO [.ref (d0 0), .int p0] (wg4 cI cZ d0 S0)) (vp_Si (fun x => x = tg ∧ True)) 0 0 (fun _ => False) := by
  refine Met.ofW (cc := cX4_signsOfAct) (maxL := 3) (ret := (some .int)) (by decide) rfl ?_
  intro p e s m args below meth c s₁ B hml hv
  obtain ⟨rfl, hE, hP⟩ := hv
  have hx := B.exec
  have hb := B.bytes
  have hr := B.returns
  have hts := atoms_spec (ws := wsX4_signsOfAct) B.pre
  have hown : s.vm.findClass RX4 = some m.cls := findClass_of_methodNamed B.named
  have hlocks := B.notSynchronized
  have hw0 := hts (.initialized RX8) (by decide +kernel)
  have hw1 := hts (.static yX8_isPerson) (by decide +kernel)
  have hl := lv_entry ([.ref (d0 0), .int p0]) (n := 3) (Nat.le_of_ble_eq_true rfl)
  rw [lg_entry_eq]
  generalize (lg_sl ([.ref (d0 0), .int p0]) ++ List.replicate (3 - (lg_sl ([.ref (d0 0), .int p0])).length) Slot.unset).toArray = ls at hl ⊢
  have hl : lv_has ls 3 [(0, .ref (d0 0)), (1, .int p0)] := hl
  have ht := (xX4_signsOfAct_s S0 p0).symm.trans ht
  refine lv_aload_n hx hb dX4_signsOfAct_0 rfl (lv_at hl 0 rfl) ?_
  refine lv_iload_n hx hb dX4_signsOfAct_1 rfl (lv_at hl 1 rfl) ?_
  obtain ⟨q1, hq1, ht⟩ := it_b ht
  refine q_ri (va_runV (As := [.int p0]) (rest := []) ⟨hx, hb, hml, hown, hts⟩ (kX4_signAt l D cI cZ cO d0 S0 p0 q1 hq1) (cwV 1 hts gX4_signsOfAct_X4_signAt rfl rfl rfl (by decide +kernel) ⟨Nat.le_of_ble_eq_true rfl, Nat.le_of_ble_eq_true rfl⟩) (q_rV (As := [.int p0]) hE hP (q0 := 0) (ci := 4) rfl rfl) rfl rfl hl.1 rfl (lv_room (Nat.le_of_ble_eq_true rfl)) dX4_signsOfAct_2 ⟨Nat.le_of_ble_eq_true rfl, Nat.le_of_ble_eq_true rfl⟩) (fun b2 => ?_)
  refine lv_istore_n (lv' := [(2, .int q1), (0, .ref (d0 0)), (1, .int p0)]) hx hb dX4_signsOfAct_5 rfl hl (by decide) rfl (fun ls hl => ?_)
  refine lv_iload_n hx hb dX4_signsOfAct_6 rfl (lv_at hl 0 rfl) ?_
  refine lv_bipush (v := 46) hx hb dX4_signsOfAct_7 (by decide) ?_
  refine lv_icmp_ne (tgt := 14) hx hb dX4_signsOfAct_9 (by decide) (fun c3 => ?_) (fun c3 => ?_)
  · have ht := it_n c3 ht
    refine lv_iload_n hx hb dX4_signsOfAct_14 rfl (lv_at hl 0 rfl) ?_
    refine lv_bipush (v := 65) hx hb dX4_signsOfAct_15 (by decide) ?_
    refine lv_isub hx hb dX4_signsOfAct_17 ?_
    refine q_ri (va_runSN (As := [.int (q1 - 65)]) (rest := []) ⟨hx, hb, hml, hown, hts⟩ (kX8_isPerson l D cI cZ cO (q1 - 65)) ⟨va_cnB 1 hts gX4_signsOfAct_X8_isPerson_n29 rfl rfl rfl hE.2.2.2.2.2.2.2.2.2.1 hw0 (by decide +kernel) ⟨Nat.le_of_ble_eq_true rfl, Nat.le_of_ble_eq_true rfl⟩, hw1, trivial⟩ (q_rS hE q_nil) rfl rfl hl.1 rfl (lv_room (Nat.le_of_ble_eq_true rfl)) dX4_signsOfAct_18 ⟨Nat.le_of_ble_eq_true rfl, Nat.le_of_ble_eq_true rfl⟩) (fun b4 => ?_)
    refine lv_if_ne (tgt := 36) hx hb dX4_signsOfAct_21 (by decide) (fun c5 => ?_) (fun c5 => ?_)
    · have ht := it_n c5 ht
      refine lv_iconst (v := 3) hx hb dX4_signsOfAct_36 (by decide) ?_
      refine lv_goto (tgt := 41) hx hb dX4_signsOfAct_37 (by decide) ?_
      have ht := Option.some.inj ht
      exact W.iret (v := 3) hx hb hr (fun t e1 hW => ⟨_, rfl, ⟨ht, trivial⟩, e1⟩) (fun q h => absurd h List.not_mem_nil) dX4_signsOfAct_41
    · have ht := it_p c5 ht
      refine lv_aload_n hx hb dX4_signsOfAct_24 rfl (lv_at hl 1 rfl) ?_
      refine lv_iload_n hx hb dX4_signsOfAct_25 rfl (lv_at hl 2 rfl) ?_
      refine lv_iconst (v := 1) hx hb dX4_signsOfAct_26 (by decide) ?_
      refine lv_iadd hx hb dX4_signsOfAct_27 ?_
      obtain ⟨q6, hq6, ht⟩ := it_b ht
      refine q_ri (va_runV (As := [.int (p0 + 1)]) (rest := []) ⟨hx, hb, hml, hown, hts⟩ (kX4_signAt l D cI cZ cO d0 S0 (p0 + 1) q6 hq6) (cwV 1 hts gX4_signsOfAct_X4_signAt rfl rfl rfl (by decide +kernel) ⟨Nat.le_of_ble_eq_true rfl, Nat.le_of_ble_eq_true rfl⟩) (q_rV (As := [.int (p0 + 1)]) hE hP (q0 := 0) (ci := 4) rfl rfl) rfl rfl hl.1 rfl (lv_room (Nat.le_of_ble_eq_true rfl)) dX4_signsOfAct_28 ⟨Nat.le_of_ble_eq_true rfl, Nat.le_of_ble_eq_true rfl⟩) (fun b7 => ?_)
      refine lv_bipush (v := 63) hx hb dX4_signsOfAct_31 (by decide) ?_
      refine lv_icmp_ne (tgt := 40) hx hb dX4_signsOfAct_33 (by decide) (fun c8 => ?_) (fun c8 => ?_)
      · have ht := it_n c8 ht
        refine lv_iconst (v := 2) hx hb dX4_signsOfAct_40 (by decide) ?_
        have ht := Option.some.inj ht
        exact W.iret (v := 2) hx hb hr (fun t e1 hW => ⟨_, rfl, ⟨ht, trivial⟩, e1⟩) (fun q h => absurd h List.not_mem_nil) dX4_signsOfAct_41
      · have ht := it_p c8 ht
        refine lv_iconst (v := 3) hx hb dX4_signsOfAct_36 (by decide) ?_
        refine lv_goto (tgt := 41) hx hb dX4_signsOfAct_37 (by decide) ?_
        have ht := Option.some.inj ht
        exact W.iret (v := 3) hx hb hr (fun t e1 hW => ⟨_, rfl, ⟨ht, trivial⟩, e1⟩) (fun q h => absurd h List.not_mem_nil) dX4_signsOfAct_41
  · have ht := it_p c3 ht
    refine lv_iconst (v := 1) hx hb dX4_signsOfAct_12 (by decide) ?_
    have ht := Option.some.inj ht
    exact W.iret (v := 1) hx hb hr (fun t e1 hW => ⟨_, rfl, ⟨ht, trivial⟩, e1⟩) (fun q h => absurd h List.not_mem_nil) dX4_signsOfAct_13
abbrev rmX3_follow : Room := { frames := 4, cells := 0, slots := 0, locals := 89 }
set_option maxHeartbeats 4000000 in
set_option maxRecDepth 100000 in
theorem kX3_follow (l : Launch) (D : va_G) (cI cZ cO : ClassId) (d0 : Nat → Nat) (d1 : Nat → Nat) (d2 : Nat → Nat) (d3 : Nat → Nat) (sz : Nat) (S0 : St) (S1 : St) (S2 : St) (S3 : St) (tg : St × St × St) (ht : xX3_follow S3 S0 S1 S2 = some tg) : Met l yX3_follow wsX3_follow rmX3_follow (q_PM D cI cZ cO [.ref (d0 0), .ref (d3 0)] sz (wg3 d0 d1 d2 S0 ++ (wg5 cI cZ d1 S1 ++ (wg0 cI cZ d2 S2 ++ (wg4 cI cZ d3 S3))))) (va_Qv (fun _ : Unit => True) (fun _ t => va_P D vwCl (wg3 d0 d1 d2 tg.1 ++ (wg5 cI cZ d1 tg.2.1 ++ (wg0 cI cZ d2 tg.2.2 ++ (wg4 cI cZ d3 S3)))) t.heap) (va_A (wg3 d0 d1 d2 S0 ++ (wg5 cI cZ d1 S1 ++ (wg0 cI cZ d2 S2 ++ (wg4 cI cZ d3 S3)))) sz)) 0 0 (va_A (wg3 d0 d1 d2 S0 ++ (wg5 cI cZ d1 S1 ++ (wg0 cI cZ d2 S2 ++ (wg4 cI cZ d3 S3)))) sz) := by
  refine Met.ofW (cc := cX3_follow) (maxL := 5) (ret := none) (by decide) rfl ?_
  intro p e s m args below meth c s₁ B hml hv
  obtain ⟨rfl, hsz, hE, hP, hD0⟩ := hv
  have hx := B.exec
  have hb := B.bytes
  have hr := B.returns
  have hts := atoms_spec (ws := wsX3_follow) B.pre
  have hown : s.vm.findClass RX3 = some m.cls := findClass_of_methodNamed B.named
  have hlocks := B.notSynchronized
  have hi4 : ∀ w ∈ u_ws RX4 TX4 2, w ∈ wsX3_follow := by decide +kernel
  have hi3 : ∀ w ∈ u_ws RX3 TX3 8, w ∈ wsX3_follow := by decide +kernel
  have hw0 := hts (.fieldLink RX3 48 "HailNames$Pad" "length" "I") (by decide +kernel)
  have hw1 := hts (.fieldLink RX3 29 "HailNames$Outcome" "badAct" "I") (by decide +kernel)
  have hw2 := hts (.fieldLink RX3 21 "HailNames$Outcome" "act" "LHailNames$Act;") (by decide +kernel)
  have hw3 := hts (.fieldLink RX3 32 "HailNames$Outcome" "why" "I") (by decide +kernel)
  subst hsz
  have hD1 := hD0.self (sz := s.heap.size)
  generalize hAe : va_A (wg3 d0 d1 d2 S0 ++ (wg5 cI cZ d1 S1 ++ (wg0 cI cZ d2 S2 ++ (wg4 cI cZ d3 S3)))) s.heap.size = A at hD1 ⊢
  have hA : ∀ q : Nat, s.heap.size ≤ q → A q := fun q h => by rw [← hAe]; exact Or.inr h
  have hS : va_S A s.heap s.heap [] := va_S.rf
  have hD : ∀ (S0 : St) (S1 : St) (S2 : St) (S3 : St), va_D A (wg3 d0 d1 d2 S0 ++ (wg5 cI cZ d1 S1 ++ (wg0 cI cZ d2 S2 ++ (wg4 cI cZ d3 S3)))) := fun S0 S1 S2 S3 => q_D hD1 rfl
  have hl := lv_entry ([.ref (d0 0), .ref (d3 0)]) (n := 5) (Nat.le_of_ble_eq_true rfl)
  rw [lg_entry_eq]
  generalize (lg_sl ([.ref (d0 0), .ref (d3 0)]) ++ List.replicate (5 - (lg_sl ([.ref (d0 0), .ref (d3 0)])).length) Slot.unset).toArray = ls at hl ⊢
  have hl : lv_has ls 5 [(0, .ref (d0 0)), (1, .ref (d3 0))] := hl
  have ht := (xX3_follow_s S3 S0 S1 S2).symm.trans ht
  obtain ⟨Q, hQ⟩ : ∃ Q, Q = MQ below (va_Qv (fun _ : Unit => True) (fun _ t => va_P D vwCl (wg3 d0 d1 d2 tg.1 ++ (wg5 cI cZ d1 tg.2.1 ++ (wg0 cI cZ d2 tg.2.2 ++ (wg4 cI cZ d3 S3)))) t.heap) A) ([.ref (d0 0), .ref (d3 0)] : List Value).toArray s 0 0 A := ⟨_, rfl⟩
  rw [← hQ]
  have L4 : ∀ (n : Nat) (x2 : Int32) (x3 : Int32) (S0 : St) (S1 : St) (S2 : St) (H : Heap) (locs : List Loc) (_ : va_P D vwCl (wg3 d0 d1 d2 S0 ++ (wg5 cI cZ d1 S1 ++ (wg0 cI cZ d2 S2 ++ (wg4 cI cZ d3 S3)))) H) (_ : va_S A s.heap H locs) (ls : Array Slot) (_ : lv_has ls 5 [(0, .ref (d0 0)), (1, .ref (d3 0)), (2, .int x2), (3, .int x3)]) (_ : xX3_follow_h4 S3 n x2 x3 S0 S1 S2 = some tg), W p l e (headSpec wsX3_follow rmX3_follow).room s m ([.ref (d0 0), .ref (d3 0)] : List Value).toArray below meth c H locs 0 0 Q (F0 m 4 ls []) := by
    intro n
    induction n with
    | zero =>
      intro x2 x3 S0 S1 S2 H locs hP hS ls hl ht
      exact it_z ht
    | succ n4 ih4 =>
      intro x2 x3 S0 S1 S2 H locs hP hS ls hl ht
      have ht := (xX3_follow_h4_s S3 n4 x2 x3 S0 S1 S2).symm.trans ht
      have J58 : ∀ (x2 : Int32) (x3 : Int32) (S0 : St) (S1 : St) (S2 : St) (H : Heap) (locs : List Loc) (_ : va_P D vwCl (wg3 d0 d1 d2 S0 ++ (wg5 cI cZ d1 S1 ++ (wg0 cI cZ d2 S2 ++ (wg4 cI cZ d3 S3)))) H) (_ : va_S A s.heap H locs) (ls : Array Slot) (_ : lv_has ls 5 [(0, .ref (d0 0)), (1, .ref (d3 0)), (2, .int x2), (3, .int x3)]) (_ : xX3_follow_h58 S3 (xX3_follow_h4 S3 n4) x2 x3 S0 S1 S2 = some tg), W p l e (headSpec wsX3_follow rmX3_follow).room s m ([.ref (d0 0), .ref (d3 0)] : List Value).toArray below meth c H locs 0 0 Q (F0 m 58 ls []) := by
        intro x2 x3 S0 S1 S2 H locs hP hS ls hl ht
        have ht := (xX3_follow_h58_s S3 (xX3_follow_h4 S3 n4) x2 x3 S0 S1 S2).symm.trans ht
        refine lv_iload_n hx hb dX3_follow_58 rfl (lv_at hl 2 rfl) ?_
        refine lv_aload_n hx hb dX3_follow_59 rfl (lv_at hl 1 rfl) ?_
        refine lv_iload_n hx hb dX3_follow_60 rfl (lv_at hl 2 rfl) ?_
        obtain ⟨q10, hq10, ht⟩ := it_b ht
        have hPc : va_P D vwCl (wg4 cI cZ d3 S3) H := hP.sub [12, 13] rfl
        refine q_ri (va_runV (As := [.int x2]) (rest := [.int x2]) ⟨hx, hb, hml, hown, hts⟩ (kX4_signsOfAct l D cI cZ cO d3 S3 x2 q10 hq10) (cwV 1 hts gX3_follow_X4_signsOfAct rfl rfl rfl (by decide +kernel) ⟨Nat.le_of_ble_eq_true rfl, Nat.le_of_ble_eq_true rfl⟩) (q_rV (As := [.int x2]) hE hPc (q0 := 0) (ci := 4) rfl rfl) rfl rfl hl.1 rfl (lv_room (Nat.le_of_ble_eq_true rfl)) dX3_follow_61 ⟨Nat.le_of_ble_eq_true rfl, Nat.le_of_ble_eq_true rfl⟩) (fun b11 => ?_)
        refine lv_iadd hx hb dX3_follow_64 ?_
        refine lv_istore_n (lv' := [(2, .int (x2 + q10)), (0, .ref (d0 0)), (1, .ref (d3 0)), (3, .int x3)]) hx hb dX3_follow_65 rfl hl (by decide) rfl (fun ls hl => ?_)
        refine lv_iinc (v := x3 + 1) (lv' := [(3, .int (x3 + 1)), (2, .int (x2 + q10)), (0, .ref (d0 0)), (1, .ref (d3 0))]) hx hb dX3_follow_66 hl (k := 3) rfl rfl (by decide) rfl (fun ls hl => ?_)
        refine lv_goto (tgt := 4) hx hb dX3_follow_69 (by decide) ?_
        exact ih4 (x2 + q10) (x3 + 1) S0 S1 S2 _ _ hP hS ls (lv_sub hl [2, 3, 1, 0] rfl) ht
      refine lv_iload_n hx hb dX3_follow_4 rfl (lv_at hl 3 rfl) ?_
      refine lv_bipush (v := 60) hx hb dX3_follow_5 (by decide) ?_
      refine lv_icmp_ge (tgt := 72) hx hb dX3_follow_7 (by decide) (fun c1 => ?_) (fun c1 => ?_)
      · have ht := it_p c1 ht
        subst hQ
        obtain rfl := Option.some.inj ht
        exact W.vret hx hb hr (fun t e1 hW => ⟨⟨(), rfl, trivial, q_at e1 hP⟩, hS.F e1⟩) hS.2.2 dX3_follow_72
      · have ht := it_n c1 ht
        refine lv_iload_n hx hb dX3_follow_10 rfl (lv_at hl 2 rfl) ?_
        refine lv_aload_n hx hb dX3_follow_11 rfl (lv_at hl 1 rfl) ?_
        refine va_get (D := D) (ci := 4) (v := .int (S3 1 0)) (C := RX4) (T := TX4) (N := 2) hx hb hts hi4 hown hE.1 hP 12 rfl rfl 1 (by decide) hw0 (fun _ h9 => h9) rfl dX3_follow_12 ?_
        refine lv_icmp_ge (tgt := 72) hx hb dX3_follow_15 (by decide) (fun c2 => ?_) (fun c2 => ?_)
        · have ht := it_p c2 ht
          subst hQ
          obtain rfl := Option.some.inj ht
          exact W.vret hx hb hr (fun t e1 hW => ⟨⟨(), rfl, trivial, q_at e1 hP⟩, hS.F e1⟩) hS.2.2 dX3_follow_72
        · have ht := it_n c2 ht
          refine lv_aload_n hx hb dX3_follow_18 rfl (lv_at hl 0 rfl) ?_
          refine va_get (D := D) (ci := 3) (v := .int (S0 3 0)) (C := RX3) (T := TX3) (N := 8) hx hb hts hi3 hown hE.1 hP 0 rfl rfl 3 (by decide) hw1 (fun _ h9 => h9) rfl dX3_follow_19 ?_
          refine lv_bipush (v := (-6)) hx hb dX3_follow_22 (by decide) ?_
          refine lv_icmp_ne (tgt := 72) hx hb dX3_follow_24 (by decide) (fun c3 => ?_) (fun c3 => ?_)
          · have ht := it_n c3 ht
            subst hQ
            obtain rfl := Option.some.inj ht
            exact W.vret hx hb hr (fun t e1 hW => ⟨⟨(), rfl, trivial, q_at e1 hP⟩, hS.F e1⟩) hS.2.2 dX3_follow_72
          · have ht := it_p c3 ht
            refine lv_aload_n hx hb dX3_follow_27 rfl (lv_at hl 1 rfl) ?_
            refine lv_iload_n hx hb dX3_follow_28 rfl (lv_at hl 2 rfl) ?_
            refine lv_aload_n hx hb dX3_follow_29 rfl (lv_at hl 0 rfl) ?_
            refine va_get (D := D) (ci := 3) (v := .ref (d2 0)) (C := RX3) (T := TX3) (N := 8) hx hb hts hi3 hown hE.1 hP 0 rfl rfl 1 (by decide) hw2 (fun _ h9 => h9) rfl dX3_follow_30 ?_
            obtain ⟨q4, hq4, ht⟩ := it_b ht
            have hPc : va_P D vwCl (wg4 cI cZ d3 S3 ++ (wg0 cI cZ d2 S2)) H := hP.sub [12, 13, 11] rfl
            have hDc : va_D A (wg4 cI cZ d3 S3 ++ (wg0 cI cZ d2 S2)) := ((hD S0 S1 S2 S3)).sub [12, 13, 11] (by decide) rfl
            have hFc := va_free (wc := (wg4 cI cZ d3 S3 ++ (wg0 cI cZ d2 S2))) (hD S0 S1 S2 S3) hS hA [12, 13, 11] rfl
            refine q_mv (va_runV (As := [.int x2, .ref (d2 0)]) (rest := []) ⟨hx, hb, hml, hown, hts⟩ (kX4_actAt l D cI cZ cO d3 d2 H.size S3 S2 x2 q4 hq4) (cwV 2 hts gX3_follow_X4_actAt rfl rfl rfl (by decide +kernel) ⟨Nat.le_of_ble_eq_true rfl, Nat.le_of_ble_eq_true rfl⟩) (q_mV (As := [.int x2, .ref (d2 0)]) hE hPc hDc (q0 := 0) (ci := 4) rfl rfl) rfl rfl hl.1 rfl (lv_room (Nat.le_of_ble_eq_true rfl)) dX3_follow_33 ⟨Nat.le_of_ble_eq_true rfl, Nat.le_of_ble_eq_true rfl⟩) hS hFc (fun H locs hP1 hk hS => ?_)
            have hP : va_P D vwCl (wg3 d0 d1 d2 S0 ++ (wg5 cI cZ d1 S1 ++ (wg0 cI cZ d2 q4 ++ (wg4 cI cZ d3 S3)))) H := (q_join (wr := (wg3 d0 d1 d2 S0 ++ (wg5 cI cZ d1 S1))) hP (hD S0 S1 S2 S3) [12, 13, 11] [0, 1, 2, 3, 4, 5, 6, 7, 8, 9, 10] rfl rfl (by decide) (by decide) hk hFc hP1 hDc rfl).sub [0, 1, 2, 3, 4, 5, 6, 7, 8, 9, 10, 13, 11, 12] rfl
            refine lv_aload_n hx hb dX3_follow_36 rfl (lv_at hl 0 rfl) ?_
            obtain ⟨q5, hq5, ht⟩ := it_b ht
            have hPc : va_P D vwCl (wg3 d0 d1 d2 S0 ++ (wg5 cI cZ d1 S1 ++ (wg0 cI cZ d2 q4))) H := hP.sub [0, 1, 2, 3, 4, 5, 6, 7, 8, 9, 10, 11] rfl
            have hDc : va_D A (wg3 d0 d1 d2 S0 ++ (wg5 cI cZ d1 S1 ++ (wg0 cI cZ d2 q4))) := ((hD S0 S1 q4 S3)).sub [0, 1, 2, 3, 4, 5, 6, 7, 8, 9, 10, 11] (by decide) rfl
            have hFc := va_free (wc := (wg3 d0 d1 d2 S0 ++ (wg5 cI cZ d1 S1 ++ (wg0 cI cZ d2 q4)))) (hD S0 S1 q4 S3) hS hA [0, 1, 2, 3, 4, 5, 6, 7, 8, 9, 10, 11] rfl
            refine q_mi (va_runV (As := []) (rest := []) ⟨hx, hb, hml, hown, hts⟩ (kX3_tryAct l D cI cZ cO d0 d1 d2 H.size S0 S1 q4 q5 hq5) (cwV 0 hts gX3_follow_X3_tryAct rfl rfl rfl (by decide +kernel) ⟨Nat.le_of_ble_eq_true rfl, Nat.le_of_ble_eq_true rfl⟩) (q_mV (As := []) hE hPc hDc (q0 := 0) (ci := 3) rfl rfl) rfl rfl hl.1 rfl (lv_room (Nat.le_of_ble_eq_true rfl)) dX3_follow_37 ⟨Nat.le_of_ble_eq_true rfl, Nat.le_of_ble_eq_true rfl⟩) hS hFc (fun H locs b6 hP1 hk hS => ?_)
            have hP : va_P D vwCl (wg3 d0 d1 d2 q5.2.1 ++ (wg5 cI cZ d1 q5.2.2 ++ (wg0 cI cZ d2 q4 ++ (wg4 cI cZ d3 S3)))) H := (q_join (wr := (wg4 cI cZ d3 S3)) hP (hD S0 S1 q4 S3) [0, 1, 2, 3, 4, 5, 6, 7, 8, 9, 10, 11] [12, 13] rfl rfl (by decide) (by decide) hk hFc hP1 hDc rfl).sub [2, 3, 4, 5, 6, 7, 8, 9, 10, 11, 12, 13, 0, 1] rfl
            refine lv_istore (lv' := [(4, .int q5.1), (0, .ref (d0 0)), (1, .ref (d3 0)), (2, .int x2), (3, .int x3)]) hx hb dX3_follow_40 hl (by decide) rfl (fun ls hl => ?_)
            refine lv_iload hx hb dX3_follow_42 (lv_at hl 0 rfl) ?_
            refine lv_if_eq (tgt := 58) hx hb dX3_follow_44 (by decide) (fun c7 => ?_) (fun c7 => ?_)
            · have ht := it_p c7 ht
              exact J58 x2 x3 q5.2.1 q5.2.2 q4 _ _ hP hS ls (lv_sub hl [1, 2, 3, 4] rfl) ht
            · have ht := it_n c7 ht
              refine lv_aload_n hx hb dX3_follow_47 rfl (lv_at hl 1 rfl) ?_
              refine lv_iload_n hx hb dX3_follow_48 rfl (lv_at hl 4 rfl) ?_
              refine va_put (D := D) (ci := 3) (v := .int x3) (ty := .int) (C := RX3) (T := TX3) (N := 8) hx hb hts hi3 tyX3 tyX3_ok nmX3 hown hE.1 hP (hD _ _ _ _) hS 0 rfl rfl 3 (by decide) hw1 (fun _ h9 => h9) rfl (by decide +kernel) rfl rfl (Nat.le_of_ble_eq_true rfl) dX3_follow_49 (fun H locs hP _ hS => ?_)
              have hP : va_P D vwCl (wg3 d0 d1 d2 (q_su q5.2.1 3 0 x3) ++ (wg5 cI cZ d1 q5.2.2 ++ (wg0 cI cZ d2 q4 ++ (wg4 cI cZ d3 S3)))) H := hP
              obtain ⟨T8, eT8⟩ : ∃ z : St, z = q_su q5.2.1 3 0 x3 := ⟨_, rfl⟩
              rw [← eT8] at hP
              have ht := it_l ht eT8
              refine lv_aload_n hx hb dX3_follow_52 rfl (lv_at hl 1 rfl) ?_
              refine lv_iload hx hb dX3_follow_53 (lv_at hl 0 rfl) ?_
              refine va_put (D := D) (ci := 3) (v := .int q5.1) (ty := .int) (C := RX3) (T := TX3) (N := 8) hx hb hts hi3 tyX3 tyX3_ok nmX3 hown hE.1 hP (hD _ _ _ _) hS 0 rfl rfl 4 (by decide) hw3 (fun _ h9 => h9) rfl (by decide +kernel) rfl rfl (Nat.le_of_ble_eq_true rfl) dX3_follow_55 (fun H locs hP _ hS => ?_)
              have hP : va_P D vwCl (wg3 d0 d1 d2 (q_su T8 4 0 q5.1) ++ (wg5 cI cZ d1 q5.2.2 ++ (wg0 cI cZ d2 q4 ++ (wg4 cI cZ d3 S3)))) H := hP
              obtain ⟨T9, eT9⟩ : ∃ z : St, z = q_su T8 4 0 q5.1 := ⟨_, rfl⟩
              rw [← eT9] at hP
              have ht := it_l ht eT9
              exact J58 x2 x3 T9 q5.2.2 q4 _ _ hP hS ls (lv_sub hl [1, 2, 3, 4] rfl) ht
  refine lv_iconst (v := 0) hx hb dX3_follow_0 (by decide) ?_
  refine lv_istore_n (lv' := [(2, .int 0), (0, .ref (d0 0)), (1, .ref (d3 0))]) hx hb dX3_follow_1 rfl hl (by decide) rfl (fun ls hl => ?_)
  refine lv_iconst (v := 0) hx hb dX3_follow_2 (by decide) ?_
  refine lv_istore_n (lv' := [(3, .int 0), (2, .int 0), (0, .ref (d0 0)), (1, .ref (d3 0))]) hx hb dX3_follow_3 rfl hl (by decide) rfl (fun ls hl => ?_)
  exact L4 5000 0 0 S0 S1 S2 _ _ hP hS ls (lv_sub hl [2, 3, 1, 0] rfl) ht
abbrev rmX3_followDraws : Room := { frames := 4, cells := 0, slots := 0, locals := 89 }
set_option maxHeartbeats 4000000 in
set_option maxRecDepth 100000 in
theorem kX3_followDraws (l : Launch) (D : va_G) (cI cZ cO : ClassId) (d0 : Nat → Nat) (d1 : Nat → Nat) (d2 : Nat → Nat) (sz : Nat) (S0 : St) (S1 : St) (S2 : St) (p0 : Int32) (p1 : Int32) (tg : St × St × St) (ht : xX3_followDraws p0 p1 S0 S1 S2 = some tg) : Met l yX3_followDraws wsX3_followDraws rmX3_followDraws (q_PM D cI cZ cO [.ref (d0 0), .int p0, .int p1] sz (wg3 d0 d1 d2 S0 ++ (wg5 cI cZ d1 S1 ++ (wg0 cI cZ d2 S2)))) (va_Qv (fun _ : Unit => True) (fun _ t => va_P D vwCl (wg3 d0 d1 d2 tg.1 ++ (wg5 cI cZ d1 tg.2.1 ++ (wg0 cI cZ d2 tg.2.2))) t.heap) (va_A (wg3 d0 d1 d2 S0 ++ (wg5 cI cZ d1 S1 ++ (wg0 cI cZ d2 S2))) sz)) 0 0 (va_A (wg3 d0 d1 d2 S0 ++ (wg5 cI cZ d1 S1 ++ (wg0 cI cZ d2 S2))) sz) := by
  refine Met.ofW (cc := cX3_followDraws) (maxL := 5) (ret := none) (by decide) rfl ?_
  intro p e s m args below meth c s₁ B hml hv
  obtain ⟨rfl, hsz, hE, hP, hD0⟩ := hv
  have hx := B.exec
  have hb := B.bytes
  have hr := B.returns
  have hts := atoms_spec (ws := wsX3_followDraws) B.pre
  have hown : s.vm.findClass RX3 = some m.cls := findClass_of_methodNamed B.named
  have hlocks := B.notSynchronized
  have hi3 : ∀ w ∈ u_ws RX3 TX3 8, w ∈ wsX3_followDraws := by decide +kernel
  have hw0 := hts (.constant RX3 65 (65537)) (by decide +kernel)
  have hw1 := hts (.fieldLink RX3 21 "HailNames$Outcome" "act" "LHailNames$Act;") (by decide +kernel)
  subst hsz
  have hD1 := hD0.self (sz := s.heap.size)
  generalize hAe : va_A (wg3 d0 d1 d2 S0 ++ (wg5 cI cZ d1 S1 ++ (wg0 cI cZ d2 S2))) s.heap.size = A at hD1 ⊢
  have hA : ∀ q : Nat, s.heap.size ≤ q → A q := fun q h => by rw [← hAe]; exact Or.inr h
  have hS : va_S A s.heap s.heap [] := va_S.rf
  have hD : ∀ (S0 : St) (S1 : St) (S2 : St), va_D A (wg3 d0 d1 d2 S0 ++ (wg5 cI cZ d1 S1 ++ (wg0 cI cZ d2 S2))) := fun S0 S1 S2 => q_D hD1 rfl
  have hl := lv_entry ([.ref (d0 0), .int p0, .int p1]) (n := 5) (Nat.le_of_ble_eq_true rfl)
  rw [lg_entry_eq]
  generalize (lg_sl ([.ref (d0 0), .int p0, .int p1]) ++ List.replicate (5 - (lg_sl ([.ref (d0 0), .int p0, .int p1])).length) Slot.unset).toArray = ls at hl ⊢
  have hl : lv_has ls 5 [(0, .ref (d0 0)), (1, .int p0), (2, .int p1)] := hl
  have ht := (xX3_followDraws_s p0 p1 S0 S1 S2).symm.trans ht
  obtain ⟨Q, hQ⟩ : ∃ Q, Q = MQ below (va_Qv (fun _ : Unit => True) (fun _ t => va_P D vwCl (wg3 d0 d1 d2 tg.1 ++ (wg5 cI cZ d1 tg.2.1 ++ (wg0 cI cZ d2 tg.2.2))) t.heap) A) ([.ref (d0 0), .int p0, .int p1] : List Value).toArray s 0 0 A := ⟨_, rfl⟩
  rw [← hQ]
  have L5 : ∀ (n : Nat) (x3 : Int32) (x4 : Int32) (S0 : St) (S1 : St) (S2 : St) (H : Heap) (locs : List Loc) (_ : va_P D vwCl (wg3 d0 d1 d2 S0 ++ (wg5 cI cZ d1 S1 ++ (wg0 cI cZ d2 S2))) H) (_ : va_S A s.heap H locs) (ls : Array Slot) (_ : lv_has ls 5 [(0, .ref (d0 0)), (2, .int p1), (3, .int x3), (4, .int x4)]) (_ : xX3_followDraws_h5 p0 p1 n x3 x4 S0 S1 S2 = some tg), W p l e (headSpec wsX3_followDraws rmX3_followDraws).room s m ([.ref (d0 0), .int p0, .int p1] : List Value).toArray below meth c H locs 0 0 Q (F0 m 5 ls []) := by
    intro n
    induction n with
    | zero =>
      intro x3 x4 S0 S1 S2 H locs hP hS ls hl ht
      exact it_z ht
    | succ n5 ih5 =>
      intro x3 x4 S0 S1 S2 H locs hP hS ls hl ht
      have ht := (xX3_followDraws_h5_s p0 p1 n5 x3 x4 S0 S1 S2).symm.trans ht
      refine lv_iload hx hb dX3_followDraws_5 (lv_at hl 3 rfl) ?_
      refine lv_iload_n hx hb dX3_followDraws_7 rfl (lv_at hl 1 rfl) ?_
      refine lv_icmp_ge (tgt := 41) hx hb dX3_followDraws_8 (by decide) (fun c1 => ?_) (fun c1 => ?_)
      · have ht := it_p c1 ht
        subst hQ
        obtain rfl := Option.some.inj ht
        exact W.vret hx hb hr (fun t e1 hW => ⟨⟨(), rfl, trivial, q_at e1 hP⟩, hS.F e1⟩) hS.2.2 dX3_followDraws_41
      · have ht := it_n c1 ht
        refine lv_bipush (v := 75) hx hb dX3_followDraws_11 (by decide) ?_
        refine lv_iload_n hx hb dX3_followDraws_13 rfl (lv_at hl 2 rfl) ?_
        refine lv_imul hx hb dX3_followDraws_14 ?_
        refine lv_bipush (v := 74) hx hb dX3_followDraws_15 (by decide) ?_
        refine lv_iadd hx hb dX3_followDraws_17 ?_
        refine lv_ldc hx hb hown hw0 dX3_followDraws_18 ?_
        refine q_irem hx hb dX3_followDraws_20 (by decide +kernel) ?_
        refine lv_istore_n (lv' := [(3, .int (q_rem ((75 * x3) + 74) 65537)), (0, .ref (d0 0)), (2, .int p1), (4, .int x4)]) hx hb dX3_followDraws_21 rfl hl (by decide) rfl (fun ls hl => ?_)
        refine lv_aload_n hx hb dX3_followDraws_22 rfl (lv_at hl 1 rfl) ?_
        refine va_get (D := D) (ci := 3) (v := .ref (d2 0)) (C := RX3) (T := TX3) (N := 8) hx hb hts hi3 hown hE.1 hP 0 rfl rfl 1 (by decide) hw1 (fun _ h9 => h9) rfl dX3_followDraws_23 ?_
        refine lv_iload_n hx hb dX3_followDraws_26 rfl (lv_at hl 0 rfl) ?_
        obtain ⟨q2, hq2, ht⟩ := it_b ht
        have hPc : va_P D vwCl (wg0 cI cZ d2 S2) H := hP.sub [11] rfl
        have hDc : va_D A (wg0 cI cZ d2 S2) := ((hD S0 S1 S2)).sub [11] (by decide) rfl
        have hFc := va_free (wc := (wg0 cI cZ d2 S2)) (hD S0 S1 S2) hS hA [11] rfl
        refine q_mv (va_runV (As := [.int (q_rem ((75 * x3) + 74) 65537)]) (rest := []) ⟨hx, hb, hml, hown, hts⟩ (kX0_setByDraw l D cI cZ cO d2 H.size S2 (q_rem ((75 * x3) + 74) 65537) q2 hq2) (cwV 1 hts gX3_followDraws_X0_setByDraw rfl rfl rfl (by decide +kernel) ⟨Nat.le_of_ble_eq_true rfl, Nat.le_of_ble_eq_true rfl⟩) (q_mV (As := [.int (q_rem ((75 * x3) + 74) 65537)]) hE hPc hDc (q0 := 0) (ci := 0) rfl rfl) rfl rfl hl.1 rfl (lv_room (Nat.le_of_ble_eq_true rfl)) dX3_followDraws_27 ⟨Nat.le_of_ble_eq_true rfl, Nat.le_of_ble_eq_true rfl⟩) hS hFc (fun H locs hP1 hk hS => ?_)
        have hP : va_P D vwCl (wg3 d0 d1 d2 S0 ++ (wg5 cI cZ d1 S1 ++ (wg0 cI cZ d2 q2))) H := (q_join (wr := (wg3 d0 d1 d2 S0 ++ (wg5 cI cZ d1 S1))) hP (hD S0 S1 S2) [11] [0, 1, 2, 3, 4, 5, 6, 7, 8, 9, 10] rfl rfl (by decide) (by decide) hk hFc hP1 hDc rfl).sub [0, 1, 2, 3, 4, 5, 6, 7, 8, 9, 10, 11] rfl
        refine lv_aload_n hx hb dX3_followDraws_30 rfl (lv_at hl 1 rfl) ?_
        obtain ⟨q3, hq3, ht⟩ := it_b ht
        have hFc := q_freeW (hD S0 S1 q2) hS hA
        refine q_mi (va_runV (As := []) (rest := []) ⟨hx, hb, hml, hown, hts⟩ (kX3_tryAct l D cI cZ cO d0 d1 d2 H.size S0 S1 q2 q3 hq3) (cwV 0 hts gX3_followDraws_X3_tryAct rfl rfl rfl (by decide +kernel) ⟨Nat.le_of_ble_eq_true rfl, Nat.le_of_ble_eq_true rfl⟩) (q_mV (As := []) hE hP (hD S0 S1 q2) (q0 := 0) (ci := 3) rfl rfl) rfl rfl hl.1 rfl (lv_room (Nat.le_of_ble_eq_true rfl)) dX3_followDraws_31 ⟨Nat.le_of_ble_eq_true rfl, Nat.le_of_ble_eq_true rfl⟩) hS hFc (fun H locs b4 hP1 hk hS => ?_)
        have hP : va_P D vwCl (wg3 d0 d1 d2 q3.2.1 ++ (wg5 cI cZ d1 q3.2.2 ++ (wg0 cI cZ d2 q2))) H := hP1
        refine lv_pop hx hb dX3_followDraws_34 rfl ?_
        refine lv_iinc (v := x4 + 1) (lv' := [(4, .int (x4 + 1)), (3, .int (q_rem ((75 * x3) + 74) 65537)), (0, .ref (d0 0)), (2, .int p1)]) hx hb dX3_followDraws_35 hl (k := 3) rfl rfl (by decide) rfl (fun ls hl => ?_)
        refine lv_goto (tgt := 5) hx hb dX3_followDraws_38 (by decide) ?_
        exact ih5 (q_rem ((75 * x3) + 74) 65537) (x4 + 1) q3.2.1 q3.2.2 q2 _ _ hP hS ls (lv_sub hl [2, 3, 1, 0] rfl) ht
  refine lv_iload_n hx hb dX3_followDraws_0 rfl (lv_at hl 1 rfl) ?_
  refine lv_istore_n (lv' := [(3, .int p0), (0, .ref (d0 0)), (1, .int p0), (2, .int p1)]) hx hb dX3_followDraws_1 rfl hl (by decide) rfl (fun ls hl => ?_)
  refine lv_iconst (v := 0) hx hb dX3_followDraws_2 (by decide) ?_
  refine lv_istore (lv' := [(4, .int 0), (3, .int p0), (0, .ref (d0 0)), (1, .int p0), (2, .int p1)]) hx hb dX3_followDraws_3 hl (by decide) rfl (fun ls hl => ?_)
  exact L5 5000 p0 0 S0 S1 S2 _ _ hP hS ls (lv_sub hl [2, 4, 1, 0] rfl) ht
abbrev rmX4_append : Room := { frames := 0, cells := 0, slots := 0, locals := 0 }
set_option maxHeartbeats 4000000 in
set_option maxRecDepth 100000 in
theorem kX4_append (l : Launch) (D : va_G) (cI cZ cO : ClassId) (d0 : Nat → Nat) (sz : Nat) (S0 : St) (p0 : Int32) (tg : Int32 × St) (ht : xX4_append p0 S0 = some tg) : Met l yX4_append wsX4_append rmX4_append (q_PM D cI cZ cO [.ref (d0 0), .int p0] sz (wg4 cI cZ d0 S0)) (va_Qi (fun x (_ : Unit) => x = tg.1 ∧ narrow .boolean (.int x) = .int x) (fun _ t => va_P D vwCl (wg4 cI cZ d0 tg.2) t.heap) (va_A (wg4 cI cZ d0 S0) sz)) 0 0 (va_A (wg4 cI cZ d0 S0) sz) := by
  refine Met.ofW (cc := cX4_append) (maxL := 2) (ret := (some .boolean)) (by decide) rfl ?_
  intro p e s m args below meth c s₁ B hml hv
  obtain ⟨rfl, hsz, hE, hP, hD0⟩ := hv
  have hx := B.exec
  have hb := B.bytes
  have hr := B.returns
  have hts := atoms_spec (ws := wsX4_append) B.pre
  have hown : s.vm.findClass RX4 = some m.cls := findClass_of_methodNamed B.named
  have hlocks := B.notSynchronized
  have hi4 : ∀ w ∈ u_ws RX4 TX4 2, w ∈ wsX4_append := by decide +kernel
  have hw0 := hts (.fieldLink RX4 15 "HailNames$Pad" "length" "I") (by decide +kernel)
  have hw1 := hts (.fieldLink RX4 9 "HailNames$Pad" "signs" "[I") (by decide +kernel)
  subst hsz
  have hD1 := hD0.self (sz := s.heap.size)
  generalize hAe : va_A (wg4 cI cZ d0 S0) s.heap.size = A at hD1 ⊢
  have hA : ∀ q : Nat, s.heap.size ≤ q → A q := fun q h => by rw [← hAe]; exact Or.inr h
  have hS : va_S A s.heap s.heap [] := va_S.rf
  have hD : ∀ (S0 : St), va_D A (wg4 cI cZ d0 S0) := fun S0 => q_D hD1 rfl
  have hl := lv_entry ([.ref (d0 0), .int p0]) (n := 2) (Nat.le_of_ble_eq_true rfl)
  rw [lg_entry_eq]
  generalize (lg_sl ([.ref (d0 0), .int p0]) ++ List.replicate (2 - (lg_sl ([.ref (d0 0), .int p0])).length) Slot.unset).toArray = ls at hl ⊢
  have hl : lv_has ls 2 [(0, .ref (d0 0)), (1, .int p0)] := hl
  have ht := (xX4_append_s p0 S0).symm.trans ht
  refine lv_aload_n hx hb dX4_append_0 rfl (lv_at hl 0 rfl) ?_
  refine va_get (D := D) (ci := 4) (v := .int (S0 1 0)) (C := RX4) (T := TX4) (N := 2) hx hb hts hi4 hown hE.1 hP 0 rfl rfl 1 (by decide) hw0 (fun _ h9 => h9) rfl dX4_append_1 ?_
  refine lv_bipush (v := 60) hx hb dX4_append_4 (by decide) ?_
  refine lv_icmp_lt (tgt := 11) hx hb dX4_append_6 (by decide) (fun c1 => ?_) (fun c1 => ?_)
  · have ht := it_p c1 ht
    refine lv_aload_n hx hb dX4_append_11 rfl (lv_at hl 0 rfl) ?_
    refine va_get (D := D) (ci := 4) (v := .ref (d0 1)) (C := RX4) (T := TX4) (N := 2) hx hb hts hi4 hown hE.1 hP 0 rfl rfl 0 (by decide) hw1 (fun _ h9 => h9) rfl dX4_append_12 ?_
    refine lv_aload_n hx hb dX4_append_15 rfl (lv_at hl 0 rfl) ?_
    refine va_get (D := D) (ci := 4) (v := .int (S0 1 0)) (C := RX4) (T := TX4) (N := 2) hx hb hts hi4 hown hE.1 hP 0 rfl rfl 1 (by decide) hw0 (fun _ h9 => h9) rfl dX4_append_16 ?_
    refine lv_iload_n hx hb dX4_append_19 rfl (lv_at hl 1 rfl) ?_
    obtain ⟨g2, ht⟩ := it_g ht
    refine va_iast hx hb hE.1 hP (hD _) hS 1 0 rfl rfl (q_in g2) dX4_append_20 (fun H locs hP _ hS => ?_)
    have hP : va_P D vwCl (wg4 cI cZ d0 (q_su S0 0 ((S0 1 0).toNatClampNeg) p0)) H := hP
    obtain ⟨T3, eT3⟩ : ∃ z : St, z = q_su S0 0 ((S0 1 0).toNatClampNeg) p0 := ⟨_, rfl⟩
    rw [← eT3] at hP
    have ht := it_l ht eT3
    refine lv_aload_n hx hb dX4_append_21 rfl (lv_at hl 0 rfl) ?_
    refine lv_dup hx hb dX4_append_22 rfl ?_
    refine va_get (D := D) (ci := 4) (v := .int (T3 1 0)) (C := RX4) (T := TX4) (N := 2) hx hb hts hi4 hown hE.1 hP 0 rfl rfl 1 (by decide) hw0 (fun _ h9 => h9) rfl dX4_append_23 ?_
    refine lv_iconst (v := 1) hx hb dX4_append_26 (by decide) ?_
    refine lv_iadd hx hb dX4_append_27 ?_
    refine va_put (D := D) (ci := 4) (v := .int ((T3 1 0) + 1)) (ty := .int) (C := RX4) (T := TX4) (N := 2) hx hb hts hi4 tyX4 tyX4_ok nmX4 hown hE.1 hP (hD _) hS 0 rfl rfl 1 (by decide) hw0 (fun _ h9 => h9) rfl (by decide +kernel) rfl rfl (Nat.le_of_ble_eq_true rfl) dX4_append_28 (fun H locs hP _ hS => ?_)
    have hP : va_P D vwCl (wg4 cI cZ d0 (q_su T3 1 0 ((T3 1 0) + 1))) H := hP
    obtain ⟨T4, eT4⟩ : ∃ z : St, z = q_su T3 1 0 ((T3 1 0) + 1) := ⟨_, rfl⟩
    rw [← eT4] at hP
    have ht := it_l ht eT4
    refine lv_iconst (v := 1) hx hb dX4_append_31 (by decide) ?_
    obtain rfl := Option.some.inj ht
    exact W.zret (v := 1) (ty := .boolean) hx hb hr (by decide +kernel) (fun t e1 hW => ⟨⟨_, (), rfl, ⟨rfl, (by decide +kernel)⟩, q_at e1 hP⟩, hS.F e1⟩) hS.2.2 dX4_append_32
  · have ht := it_n c1 ht
    refine lv_iconst (v := 0) hx hb dX4_append_9 (by decide) ?_
    obtain rfl := Option.some.inj ht
    exact W.zret (v := 0) (ty := .boolean) hx hb hr (by decide +kernel) (fun t e1 hW => ⟨⟨_, (), rfl, ⟨rfl, (by decide +kernel)⟩, q_at e1 hP⟩, hS.F e1⟩) hS.2.2 dX4_append_10
abbrev rmX4_clear : Room := { frames := 0, cells := 0, slots := 0, locals := 0 }
set_option maxHeartbeats 4000000 in
set_option maxRecDepth 100000 in
theorem kX4_clear (l : Launch) (D : va_G) (cI cZ cO : ClassId) (d0 : Nat → Nat) (sz : Nat) (S0 : St) (tg : Int32 × St) (ht : xX4_clear S0 = some tg) : Met l yX4_clear wsX4_clear rmX4_clear (q_PM D cI cZ cO [.ref (d0 0)] sz (wg4 cI cZ d0 S0)) (va_Qi (fun x (_ : Unit) => x = tg.1 ∧ True) (fun _ t => va_P D vwCl (wg4 cI cZ d0 tg.2) t.heap) (va_A (wg4 cI cZ d0 S0) sz)) 0 0 (va_A (wg4 cI cZ d0 S0) sz) := by
  refine Met.ofW (cc := cX4_clear) (maxL := 2) (ret := (some .int)) (by decide) rfl ?_
  intro p e s m args below meth c s₁ B hml hv
  obtain ⟨rfl, hsz, hE, hP, hD0⟩ := hv
  have hx := B.exec
  have hb := B.bytes
  have hr := B.returns
  have hts := atoms_spec (ws := wsX4_clear) B.pre
  have hown : s.vm.findClass RX4 = some m.cls := findClass_of_methodNamed B.named
  have hlocks := B.notSynchronized
  have hi4 : ∀ w ∈ u_ws RX4 TX4 2, w ∈ wsX4_clear := by decide +kernel
  have hw0 := hts (.fieldLink RX4 15 "HailNames$Pad" "length" "I") (by decide +kernel)
  subst hsz
  have hD1 := hD0.self (sz := s.heap.size)
  generalize hAe : va_A (wg4 cI cZ d0 S0) s.heap.size = A at hD1 ⊢
  have hA : ∀ q : Nat, s.heap.size ≤ q → A q := fun q h => by rw [← hAe]; exact Or.inr h
  have hS : va_S A s.heap s.heap [] := va_S.rf
  have hD : ∀ (S0 : St), va_D A (wg4 cI cZ d0 S0) := fun S0 => q_D hD1 rfl
  have hl := lv_entry ([.ref (d0 0)]) (n := 2) (Nat.le_of_ble_eq_true rfl)
  rw [lg_entry_eq]
  generalize (lg_sl ([.ref (d0 0)]) ++ List.replicate (2 - (lg_sl ([.ref (d0 0)])).length) Slot.unset).toArray = ls at hl ⊢
  have hl : lv_has ls 2 [(0, .ref (d0 0))] := hl
  have ht := (xX4_clear_s S0).symm.trans ht
  refine lv_aload_n hx hb dX4_clear_0 rfl (lv_at hl 0 rfl) ?_
  refine va_get (D := D) (ci := 4) (v := .int (S0 1 0)) (C := RX4) (T := TX4) (N := 2) hx hb hts hi4 hown hE.1 hP 0 rfl rfl 1 (by decide) hw0 (fun _ h9 => h9) rfl dX4_clear_1 ?_
  refine lv_istore_n (lv' := [(1, .int (S0 1 0)), (0, .ref (d0 0))]) hx hb dX4_clear_4 rfl hl (by decide) rfl (fun ls hl => ?_)
  refine lv_aload_n hx hb dX4_clear_5 rfl (lv_at hl 1 rfl) ?_
  refine lv_iconst (v := 0) hx hb dX4_clear_6 (by decide) ?_
  refine va_put (D := D) (ci := 4) (v := .int 0) (ty := .int) (C := RX4) (T := TX4) (N := 2) hx hb hts hi4 tyX4 tyX4_ok nmX4 hown hE.1 hP (hD _) hS 0 rfl rfl 1 (by decide) hw0 (fun _ h9 => h9) rfl (by decide +kernel) rfl rfl (Nat.le_of_ble_eq_true rfl) dX4_clear_7 (fun H locs hP _ hS => ?_)
  have hP : va_P D vwCl (wg4 cI cZ d0 (q_su S0 1 0 0)) H := hP
  obtain ⟨T1, eT1⟩ : ∃ z : St, z = q_su S0 1 0 0 := ⟨_, rfl⟩
  rw [← eT1] at hP
  have ht := it_l ht eT1
  refine lv_iload_n hx hb dX4_clear_10 rfl (lv_at hl 0 rfl) ?_
  obtain rfl := Option.some.inj ht
  exact W.iret (v := S0 1 0) hx hb hr (fun t e1 hW => ⟨⟨_, (), rfl, ⟨rfl, trivial⟩, q_at e1 hP⟩, hS.F e1⟩) hS.2.2 dX4_clear_11
abbrev rmX4_faultOfPersonsAct : Room := { frames := 2, cells := 0, slots := 0, locals := 42 }
set_option maxHeartbeats 4000000 in
set_option maxRecDepth 100000 in
theorem kX4_faultOfPersonsAct (l : Launch) (D : va_G) (cI cZ cO : ClassId) (d0 : Nat → Nat) (S0 : St) (p0 : Int32) (tg : Int32) (ht : xX4_faultOfPersonsAct S0 p0 = some tg) : Met l yX4_faultOfPersonsAct wsX4_faultOfPersonsAct rmX4_faultOfPersonsAct (q_PR D cI cZ cO [.ref (d0 0), .int p0] (wg4 cI cZ d0 S0)) (vp_Si (fun x => x = tg ∧ True)) 0 0 (fun _ => False) := by
  refine Met.ofW (cc := cX4_faultOfPersonsAct) (maxL := 4) (ret := (some .int)) (by decide) rfl ?_
  intro p e s m args below meth c s₁ B hml hv
  obtain ⟨rfl, hE, hP⟩ := hv
  have hx := B.exec
  have hb := B.bytes
  have hr := B.returns
  have hts := atoms_spec (ws := wsX4_faultOfPersonsAct) B.pre
  have hown : s.vm.findClass RX4 = some m.cls := findClass_of_methodNamed B.named
  have hlocks := B.notSynchronized
  have hw0 := hts (.initialized RX8) (by decide +kernel)
  have hw1 := hts (.static yX8_isCell) (by decide +kernel)
  have hw2 := hts (.static yX8_isPerson) (by decide +kernel)
  have hl := lv_entry ([.ref (d0 0), .int p0]) (n := 4) (Nat.le_of_ble_eq_true rfl)
  rw [lg_entry_eq]
  generalize (lg_sl ([.ref (d0 0), .int p0]) ++ List.replicate (4 - (lg_sl ([.ref (d0 0), .int p0])).length) Slot.unset).toArray = ls at hl ⊢
  have hl : lv_has ls 4 [(0, .ref (d0 0)), (1, .int p0)] := hl
  have ht := (xX4_faultOfPersonsAct_s S0 p0).symm.trans ht
  refine lv_aload_n hx hb dX4_faultOfPersonsAct_0 rfl (lv_at hl 0 rfl) ?_
  refine lv_iload_n hx hb dX4_faultOfPersonsAct_1 rfl (lv_at hl 1 rfl) ?_
  refine lv_iconst (v := 1) hx hb dX4_faultOfPersonsAct_2 (by decide) ?_
  refine lv_iadd hx hb dX4_faultOfPersonsAct_3 ?_
  obtain ⟨q1, hq1, ht⟩ := it_b ht
  refine q_ri (va_runV (As := [.int (p0 + 1)]) (rest := []) ⟨hx, hb, hml, hown, hts⟩ (kX4_signAt l D cI cZ cO d0 S0 (p0 + 1) q1 hq1) (cwV 1 hts gX4_faultOfPersonsAct_X4_signAt rfl rfl rfl (by decide +kernel) ⟨Nat.le_of_ble_eq_true rfl, Nat.le_of_ble_eq_true rfl⟩) (q_rV (As := [.int (p0 + 1)]) hE hP (q0 := 0) (ci := 4) rfl rfl) rfl rfl hl.1 rfl (lv_room (Nat.le_of_ble_eq_true rfl)) dX4_faultOfPersonsAct_4 ⟨Nat.le_of_ble_eq_true rfl, Nat.le_of_ble_eq_true rfl⟩) (fun b2 => ?_)
  refine lv_istore_n (lv' := [(2, .int q1), (0, .ref (d0 0)), (1, .int p0)]) hx hb dX4_faultOfPersonsAct_7 rfl hl (by decide) rfl (fun ls hl => ?_)
  refine lv_aload_n hx hb dX4_faultOfPersonsAct_8 rfl (lv_at hl 1 rfl) ?_
  refine lv_iload_n hx hb dX4_faultOfPersonsAct_9 rfl (lv_at hl 2 rfl) ?_
  refine lv_iconst (v := 2) hx hb dX4_faultOfPersonsAct_10 (by decide) ?_
  refine lv_iadd hx hb dX4_faultOfPersonsAct_11 ?_
  obtain ⟨q3, hq3, ht⟩ := it_b ht
  refine q_ri (va_runV (As := [.int (p0 + 2)]) (rest := []) ⟨hx, hb, hml, hown, hts⟩ (kX4_signAt l D cI cZ cO d0 S0 (p0 + 2) q3 hq3) (cwV 1 hts gX4_faultOfPersonsAct_X4_signAt rfl rfl rfl (by decide +kernel) ⟨Nat.le_of_ble_eq_true rfl, Nat.le_of_ble_eq_true rfl⟩) (q_rV (As := [.int (p0 + 2)]) hE hP (q0 := 0) (ci := 4) rfl rfl) rfl rfl hl.1 rfl (lv_room (Nat.le_of_ble_eq_true rfl)) dX4_faultOfPersonsAct_12 ⟨Nat.le_of_ble_eq_true rfl, Nat.le_of_ble_eq_true rfl⟩) (fun b4 => ?_)
  refine lv_istore_n (lv' := [(3, .int q3), (2, .int q1), (0, .ref (d0 0)), (1, .int p0)]) hx hb dX4_faultOfPersonsAct_15 rfl hl (by decide) rfl (fun ls hl => ?_)
  refine lv_iload_n hx hb dX4_faultOfPersonsAct_16 rfl (lv_at hl 1 rfl) ?_
  refine lv_bipush (v := 62) hx hb dX4_faultOfPersonsAct_17 (by decide) ?_
  refine lv_icmp_ne (tgt := 41) hx hb dX4_faultOfPersonsAct_19 (by decide) (fun c5 => ?_) (fun c5 => ?_)
  · have ht := it_n c5 ht
    refine lv_iload_n hx hb dX4_faultOfPersonsAct_41 rfl (lv_at hl 1 rfl) ?_
    refine lv_bipush (v := 64) hx hb dX4_faultOfPersonsAct_42 (by decide) ?_
    refine lv_icmp_ne (tgt := 66) hx hb dX4_faultOfPersonsAct_44 (by decide) (fun c6 => ?_) (fun c6 => ?_)
    · have ht := it_n c6 ht
      refine lv_iload_n hx hb dX4_faultOfPersonsAct_66 rfl (lv_at hl 3 rfl) ?_
      refine lv_iconst (v := 1) hx hb dX4_faultOfPersonsAct_67 (by decide) ?_
      refine lv_iadd hx hb dX4_faultOfPersonsAct_68 ?_
      have ht := Option.some.inj ht
      exact W.iret (v := p0 + 1) hx hb hr (fun t e1 hW => ⟨_, rfl, ⟨ht, trivial⟩, e1⟩) (fun q h => absurd h List.not_mem_nil) dX4_faultOfPersonsAct_69
    · have ht := it_p c6 ht
      refine lv_iload_n hx hb dX4_faultOfPersonsAct_47 rfl (lv_at hl 0 rfl) ?_
      refine lv_bipush (v := 97) hx hb dX4_faultOfPersonsAct_48 (by decide) ?_
      refine lv_isub hx hb dX4_faultOfPersonsAct_50 ?_
      refine q_ri (va_runSN (As := [.int (q3 - 97)]) (rest := []) ⟨hx, hb, hml, hown, hts⟩ (kX8_isCell l D cI cZ cO (q3 - 97)) ⟨va_cnB 1 hts gX4_faultOfPersonsAct_X8_isCell_n42 rfl rfl rfl hE.2.2.2.2.2.2.2.2.2.2.1 hw0 (by decide +kernel) ⟨Nat.le_of_ble_eq_true rfl, Nat.le_of_ble_eq_true rfl⟩, hw1, trivial⟩ (q_rS hE q_nil) rfl rfl hl.1 rfl (lv_room (Nat.le_of_ble_eq_true rfl)) dX4_faultOfPersonsAct_51 ⟨Nat.le_of_ble_eq_true rfl, Nat.le_of_ble_eq_true rfl⟩) (fun b7 => ?_)
      refine lv_if_eq (tgt := 62) hx hb dX4_faultOfPersonsAct_54 (by decide) (fun c8 => ?_) (fun c8 => ?_)
      · have ht := it_p c8 ht
        refine lv_iload_n hx hb dX4_faultOfPersonsAct_62 rfl (lv_at hl 3 rfl) ?_
        refine lv_iconst (v := 2) hx hb dX4_faultOfPersonsAct_63 (by decide) ?_
        refine lv_iadd hx hb dX4_faultOfPersonsAct_64 ?_
        have ht := Option.some.inj ht
        exact W.iret (v := p0 + 2) hx hb hr (fun t e1 hW => ⟨_, rfl, ⟨ht, trivial⟩, e1⟩) (fun q h => absurd h List.not_mem_nil) dX4_faultOfPersonsAct_65
      · have ht := it_n c8 ht
        refine lv_bipush (v := (-6)) hx hb dX4_faultOfPersonsAct_57 (by decide) ?_
        refine lv_goto (tgt := 65) hx hb dX4_faultOfPersonsAct_59 (by decide) ?_
        have ht := Option.some.inj ht
        exact W.iret (v := (-6)) hx hb hr (fun t e1 hW => ⟨_, rfl, ⟨ht, trivial⟩, e1⟩) (fun q h => absurd h List.not_mem_nil) dX4_faultOfPersonsAct_65
  · have ht := it_p c5 ht
    refine lv_iload_n hx hb dX4_faultOfPersonsAct_22 rfl (lv_at hl 0 rfl) ?_
    refine lv_bipush (v := 65) hx hb dX4_faultOfPersonsAct_23 (by decide) ?_
    refine lv_isub hx hb dX4_faultOfPersonsAct_25 ?_
    refine q_ri (va_runSN (As := [.int (q3 - 65)]) (rest := []) ⟨hx, hb, hml, hown, hts⟩ (kX8_isPerson l D cI cZ cO (q3 - 65)) ⟨va_cnB 1 hts gX4_faultOfPersonsAct_X8_isPerson_n29 rfl rfl rfl hE.2.2.2.2.2.2.2.2.2.1 hw0 (by decide +kernel) ⟨Nat.le_of_ble_eq_true rfl, Nat.le_of_ble_eq_true rfl⟩, hw2, trivial⟩ (q_rS hE q_nil) rfl rfl hl.1 rfl (lv_room (Nat.le_of_ble_eq_true rfl)) dX4_faultOfPersonsAct_26 ⟨Nat.le_of_ble_eq_true rfl, Nat.le_of_ble_eq_true rfl⟩) (fun b9 => ?_)
    refine lv_if_eq (tgt := 37) hx hb dX4_faultOfPersonsAct_29 (by decide) (fun c10 => ?_) (fun c10 => ?_)
    · have ht := it_p c10 ht
      refine lv_iload_n hx hb dX4_faultOfPersonsAct_37 rfl (lv_at hl 3 rfl) ?_
      refine lv_iconst (v := 2) hx hb dX4_faultOfPersonsAct_38 (by decide) ?_
      refine lv_iadd hx hb dX4_faultOfPersonsAct_39 ?_
      have ht := Option.some.inj ht
      exact W.iret (v := p0 + 2) hx hb hr (fun t e1 hW => ⟨_, rfl, ⟨ht, trivial⟩, e1⟩) (fun q h => absurd h List.not_mem_nil) dX4_faultOfPersonsAct_40
    · have ht := it_n c10 ht
      refine lv_bipush (v := (-6)) hx hb dX4_faultOfPersonsAct_32 (by decide) ?_
      refine lv_goto (tgt := 40) hx hb dX4_faultOfPersonsAct_34 (by decide) ?_
      have ht := Option.some.inj ht
      exact W.iret (v := (-6)) hx hb hr (fun t e1 hW => ⟨_, rfl, ⟨ht, trivial⟩, e1⟩) (fun q h => absurd h List.not_mem_nil) dX4_faultOfPersonsAct_40
abbrev rmX4_faultOfReadersAct : Room := { frames := 2, cells := 0, slots := 0, locals := 42 }
set_option maxHeartbeats 4000000 in
set_option maxRecDepth 100000 in
theorem kX4_faultOfReadersAct (l : Launch) (D : va_G) (cI cZ cO : ClassId) (d0 : Nat → Nat) (S0 : St) (p0 : Int32) (tg : Int32) (ht : xX4_faultOfReadersAct S0 p0 = some tg) : Met l yX4_faultOfReadersAct wsX4_faultOfReadersAct rmX4_faultOfReadersAct (q_PR D cI cZ cO [.ref (d0 0), .int p0] (wg4 cI cZ d0 S0)) (vp_Si (fun x => x = tg ∧ True)) 0 0 (fun _ => False) := by
  refine Met.ofW (cc := cX4_faultOfReadersAct) (maxL := 3) (ret := (some .int)) (by decide) rfl ?_
  intro p e s m args below meth c s₁ B hml hv
  obtain ⟨rfl, hE, hP⟩ := hv
  have hx := B.exec
  have hb := B.bytes
  have hr := B.returns
  have hts := atoms_spec (ws := wsX4_faultOfReadersAct) B.pre
  have hown : s.vm.findClass RX4 = some m.cls := findClass_of_methodNamed B.named
  have hlocks := B.notSynchronized
  have hw0 := hts (.initialized RX8) (by decide +kernel)
  have hw1 := hts (.static yX8_isPerson) (by decide +kernel)
  have hl := lv_entry ([.ref (d0 0), .int p0]) (n := 3) (Nat.le_of_ble_eq_true rfl)
  rw [lg_entry_eq]
  generalize (lg_sl ([.ref (d0 0), .int p0]) ++ List.replicate (3 - (lg_sl ([.ref (d0 0), .int p0])).length) Slot.unset).toArray = ls at hl ⊢
  have hl : lv_has ls 3 [(0, .ref (d0 0)), (1, .int p0)] := hl
  have ht := (xX4_faultOfReadersAct_s S0 p0).symm.trans ht
  refine lv_aload_n hx hb dX4_faultOfReadersAct_0 rfl (lv_at hl 0 rfl) ?_
  refine lv_iload_n hx hb dX4_faultOfReadersAct_1 rfl (lv_at hl 1 rfl) ?_
  refine lv_iconst (v := 1) hx hb dX4_faultOfReadersAct_2 (by decide) ?_
  refine lv_iadd hx hb dX4_faultOfReadersAct_3 ?_
  obtain ⟨q1, hq1, ht⟩ := it_b ht
  refine q_ri (va_runV (As := [.int (p0 + 1)]) (rest := []) ⟨hx, hb, hml, hown, hts⟩ (kX4_signAt l D cI cZ cO d0 S0 (p0 + 1) q1 hq1) (cwV 1 hts gX4_faultOfReadersAct_X4_signAt rfl rfl rfl (by decide +kernel) ⟨Nat.le_of_ble_eq_true rfl, Nat.le_of_ble_eq_true rfl⟩) (q_rV (As := [.int (p0 + 1)]) hE hP (q0 := 0) (ci := 4) rfl rfl) rfl rfl hl.1 rfl (lv_room (Nat.le_of_ble_eq_true rfl)) dX4_faultOfReadersAct_4 ⟨Nat.le_of_ble_eq_true rfl, Nat.le_of_ble_eq_true rfl⟩) (fun b2 => ?_)
  refine lv_istore_n (lv' := [(2, .int q1), (0, .ref (d0 0)), (1, .int p0)]) hx hb dX4_faultOfReadersAct_7 rfl hl (by decide) rfl (fun ls hl => ?_)
  refine lv_iload_n hx hb dX4_faultOfReadersAct_8 rfl (lv_at hl 0 rfl) ?_
  refine lv_bipush (v := 62) hx hb dX4_faultOfReadersAct_9 (by decide) ?_
  refine lv_icmp_eq (tgt := 20) hx hb dX4_faultOfReadersAct_11 (by decide) (fun c3 => ?_) (fun c3 => ?_)
  · have ht := it_p c3 ht
    refine lv_bipush (v := (-6)) hx hb dX4_faultOfReadersAct_20 (by decide) ?_
    have ht := Option.some.inj ht
    exact W.iret (v := (-6)) hx hb hr (fun t e1 hW => ⟨_, rfl, ⟨ht, trivial⟩, e1⟩) (fun q h => absurd h List.not_mem_nil) dX4_faultOfReadersAct_22
  · have ht := it_n c3 ht
    refine lv_iload_n hx hb dX4_faultOfReadersAct_14 rfl (lv_at hl 0 rfl) ?_
    refine lv_bipush (v := 60) hx hb dX4_faultOfReadersAct_15 (by decide) ?_
    refine lv_icmp_ne (tgt := 23) hx hb dX4_faultOfReadersAct_17 (by decide) (fun c4 => ?_) (fun c4 => ?_)
    · have ht := it_n c4 ht
      refine lv_iload_n hx hb dX4_faultOfReadersAct_23 rfl (lv_at hl 0 rfl) ?_
      refine lv_bipush (v := 63) hx hb dX4_faultOfReadersAct_24 (by decide) ?_
      refine lv_icmp_ne (tgt := 54) hx hb dX4_faultOfReadersAct_26 (by decide) (fun c5 => ?_) (fun c5 => ?_)
      · have ht := it_n c5 ht
        refine lv_iload_n hx hb dX4_faultOfReadersAct_54 rfl (lv_at hl 2 rfl) ?_
        refine lv_iconst (v := 1) hx hb dX4_faultOfReadersAct_55 (by decide) ?_
        refine lv_iadd hx hb dX4_faultOfReadersAct_56 ?_
        have ht := Option.some.inj ht
        exact W.iret (v := p0 + 1) hx hb hr (fun t e1 hW => ⟨_, rfl, ⟨ht, trivial⟩, e1⟩) (fun q h => absurd h List.not_mem_nil) dX4_faultOfReadersAct_57
      · have ht := it_p c5 ht
        refine lv_aload_n hx hb dX4_faultOfReadersAct_29 rfl (lv_at hl 1 rfl) ?_
        refine lv_iload_n hx hb dX4_faultOfReadersAct_30 rfl (lv_at hl 2 rfl) ?_
        refine lv_iconst (v := 2) hx hb dX4_faultOfReadersAct_31 (by decide) ?_
        refine lv_iadd hx hb dX4_faultOfReadersAct_32 ?_
        obtain ⟨q6, hq6, ht⟩ := it_b ht
        refine q_ri (va_runV (As := [.int (p0 + 2)]) (rest := []) ⟨hx, hb, hml, hown, hts⟩ (kX4_signAt l D cI cZ cO d0 S0 (p0 + 2) q6 hq6) (cwV 1 hts gX4_faultOfReadersAct_X4_signAt rfl rfl rfl (by decide +kernel) ⟨Nat.le_of_ble_eq_true rfl, Nat.le_of_ble_eq_true rfl⟩) (q_rV (As := [.int (p0 + 2)]) hE hP (q0 := 0) (ci := 4) rfl rfl) rfl rfl hl.1 rfl (lv_room (Nat.le_of_ble_eq_true rfl)) dX4_faultOfReadersAct_33 ⟨Nat.le_of_ble_eq_true rfl, Nat.le_of_ble_eq_true rfl⟩) (fun b7 => ?_)
        refine lv_bipush (v := 65) hx hb dX4_faultOfReadersAct_36 (by decide) ?_
        refine lv_isub hx hb dX4_faultOfReadersAct_38 ?_
        refine q_ri (va_runSN (As := [.int (q6 - 65)]) (rest := []) ⟨hx, hb, hml, hown, hts⟩ (kX8_isPerson l D cI cZ cO (q6 - 65)) ⟨va_cnB 1 hts gX4_faultOfReadersAct_X8_isPerson_n29 rfl rfl rfl hE.2.2.2.2.2.2.2.2.2.1 hw0 (by decide +kernel) ⟨Nat.le_of_ble_eq_true rfl, Nat.le_of_ble_eq_true rfl⟩, hw1, trivial⟩ (q_rS hE q_nil) rfl rfl hl.1 rfl (lv_room (Nat.le_of_ble_eq_true rfl)) dX4_faultOfReadersAct_39 ⟨Nat.le_of_ble_eq_true rfl, Nat.le_of_ble_eq_true rfl⟩) (fun b8 => ?_)
        refine lv_if_eq (tgt := 50) hx hb dX4_faultOfReadersAct_42 (by decide) (fun c9 => ?_) (fun c9 => ?_)
        · have ht := it_p c9 ht
          refine lv_iload_n hx hb dX4_faultOfReadersAct_50 rfl (lv_at hl 2 rfl) ?_
          refine lv_iconst (v := 2) hx hb dX4_faultOfReadersAct_51 (by decide) ?_
          refine lv_iadd hx hb dX4_faultOfReadersAct_52 ?_
          have ht := Option.some.inj ht
          exact W.iret (v := p0 + 2) hx hb hr (fun t e1 hW => ⟨_, rfl, ⟨ht, trivial⟩, e1⟩) (fun q h => absurd h List.not_mem_nil) dX4_faultOfReadersAct_53
        · have ht := it_n c9 ht
          refine lv_bipush (v := (-6)) hx hb dX4_faultOfReadersAct_45 (by decide) ?_
          refine lv_goto (tgt := 53) hx hb dX4_faultOfReadersAct_47 (by decide) ?_
          have ht := Option.some.inj ht
          exact W.iret (v := (-6)) hx hb hr (fun t e1 hW => ⟨_, rfl, ⟨ht, trivial⟩, e1⟩) (fun q h => absurd h List.not_mem_nil) dX4_faultOfReadersAct_53
    · have ht := it_p c4 ht
      refine lv_bipush (v := (-6)) hx hb dX4_faultOfReadersAct_20 (by decide) ?_
      have ht := Option.some.inj ht
      exact W.iret (v := (-6)) hx hb hr (fun t e1 hW => ⟨_, rfl, ⟨ht, trivial⟩, e1⟩) (fun q h => absurd h List.not_mem_nil) dX4_faultOfReadersAct_22
abbrev rmX4_faultOfAct : Room := { frames := 3, cells := 0, slots := 0, locals := 65 }
set_option maxHeartbeats 4000000 in
set_option maxRecDepth 100000 in
theorem kX4_faultOfAct (l : Launch) (D : va_G) (cI cZ cO : ClassId) (d0 : Nat → Nat) (S0 : St) (p0 : Int32) (tg : Int32) (ht : xX4_faultOfAct S0 p0 = some tg) : Met l yX4_faultOfAct wsX4_faultOfAct rmX4_faultOfAct (q_PR D cI cZ cO [.ref (d0 0), .int p0] (wg4 cI cZ d0 S0)) (vp_Si (fun x => x = tg ∧ True)) 0 0 (fun _ => False) := by
  refine Met.ofW (cc := cX4_faultOfAct) (maxL := 3) (ret := (some .int)) (by decide) rfl ?_
  intro p e s m args below meth c s₁ B hml hv
  obtain ⟨rfl, hE, hP⟩ := hv
  have hx := B.exec
  have hb := B.bytes
  have hr := B.returns
  have hts := atoms_spec (ws := wsX4_faultOfAct) B.pre
  have hown : s.vm.findClass RX4 = some m.cls := findClass_of_methodNamed B.named
  have hlocks := B.notSynchronized
  have hw0 := hts (.initialized RX8) (by decide +kernel)
  have hw1 := hts (.static yX8_isPerson) (by decide +kernel)
  have hw2 := hts (.static yX8_isReader) (by decide +kernel)
  have hl := lv_entry ([.ref (d0 0), .int p0]) (n := 3) (Nat.le_of_ble_eq_true rfl)
  rw [lg_entry_eq]
  generalize (lg_sl ([.ref (d0 0), .int p0]) ++ List.replicate (3 - (lg_sl ([.ref (d0 0), .int p0])).length) Slot.unset).toArray = ls at hl ⊢
  have hl : lv_has ls 3 [(0, .ref (d0 0)), (1, .int p0)] := hl
  have ht := (xX4_faultOfAct_s S0 p0).symm.trans ht
  refine lv_aload_n hx hb dX4_faultOfAct_0 rfl (lv_at hl 0 rfl) ?_
  refine lv_iload_n hx hb dX4_faultOfAct_1 rfl (lv_at hl 1 rfl) ?_
  obtain ⟨q1, hq1, ht⟩ := it_b ht
  refine q_ri (va_runV (As := [.int p0]) (rest := []) ⟨hx, hb, hml, hown, hts⟩ (kX4_signAt l D cI cZ cO d0 S0 p0 q1 hq1) (cwV 1 hts gX4_faultOfAct_X4_signAt rfl rfl rfl (by decide +kernel) ⟨Nat.le_of_ble_eq_true rfl, Nat.le_of_ble_eq_true rfl⟩) (q_rV (As := [.int p0]) hE hP (q0 := 0) (ci := 4) rfl rfl) rfl rfl hl.1 rfl (lv_room (Nat.le_of_ble_eq_true rfl)) dX4_faultOfAct_2 ⟨Nat.le_of_ble_eq_true rfl, Nat.le_of_ble_eq_true rfl⟩) (fun b2 => ?_)
  refine lv_istore_n (lv' := [(2, .int q1), (0, .ref (d0 0)), (1, .int p0)]) hx hb dX4_faultOfAct_5 rfl hl (by decide) rfl (fun ls hl => ?_)
  refine lv_iload_n hx hb dX4_faultOfAct_6 rfl (lv_at hl 0 rfl) ?_
  refine lv_bipush (v := 46) hx hb dX4_faultOfAct_7 (by decide) ?_
  refine lv_icmp_ne (tgt := 15) hx hb dX4_faultOfAct_9 (by decide) (fun c3 => ?_) (fun c3 => ?_)
  · have ht := it_n c3 ht
    refine lv_iload_n hx hb dX4_faultOfAct_15 rfl (lv_at hl 0 rfl) ?_
    refine lv_bipush (v := 65) hx hb dX4_faultOfAct_16 (by decide) ?_
    refine lv_isub hx hb dX4_faultOfAct_18 ?_
    refine q_ri (va_runSN (As := [.int (q1 - 65)]) (rest := []) ⟨hx, hb, hml, hown, hts⟩ (kX8_isPerson l D cI cZ cO (q1 - 65)) ⟨va_cnB 1 hts gX4_faultOfAct_X8_isPerson_n29 rfl rfl rfl hE.2.2.2.2.2.2.2.2.2.1 hw0 (by decide +kernel) ⟨Nat.le_of_ble_eq_true rfl, Nat.le_of_ble_eq_true rfl⟩, hw1, trivial⟩ (q_rS hE q_nil) rfl rfl hl.1 rfl (lv_room (Nat.le_of_ble_eq_true rfl)) dX4_faultOfAct_19 ⟨Nat.le_of_ble_eq_true rfl, Nat.le_of_ble_eq_true rfl⟩) (fun b4 => ?_)
    refine lv_if_eq (tgt := 31) hx hb dX4_faultOfAct_22 (by decide) (fun c5 => ?_) (fun c5 => ?_)
    · have ht := it_p c5 ht
      refine lv_iload_n hx hb dX4_faultOfAct_31 rfl (lv_at hl 0 rfl) ?_
      refine lv_bipush (v := 48) hx hb dX4_faultOfAct_32 (by decide) ?_
      refine lv_isub hx hb dX4_faultOfAct_34 ?_
      refine q_ri (va_runSN (As := [.int (q1 - 48)]) (rest := []) ⟨hx, hb, hml, hown, hts⟩ (kX8_isReader l D cI cZ cO (q1 - 48)) ⟨va_cnB 1 hts gX4_faultOfAct_X8_isReader_n36 rfl rfl rfl hE.2.2.2.2.2.2.2.2.2.2.2.1 hw0 (by decide +kernel) ⟨Nat.le_of_ble_eq_true rfl, Nat.le_of_ble_eq_true rfl⟩, hw2, trivial⟩ (q_rS hE q_nil) rfl rfl hl.1 rfl (lv_room (Nat.le_of_ble_eq_true rfl)) dX4_faultOfAct_35 ⟨Nat.le_of_ble_eq_true rfl, Nat.le_of_ble_eq_true rfl⟩) (fun b6 => ?_)
      refine lv_if_eq (tgt := 49) hx hb dX4_faultOfAct_38 (by decide) (fun c7 => ?_) (fun c7 => ?_)
      · have ht := it_p c7 ht
        refine lv_iload_n hx hb dX4_faultOfAct_49 rfl (lv_at hl 2 rfl) ?_
        have ht := Option.some.inj ht
        exact W.iret (v := p0) hx hb hr (fun t e1 hW => ⟨_, rfl, ⟨ht, trivial⟩, e1⟩) (fun q h => absurd h List.not_mem_nil) dX4_faultOfAct_50
      · have ht := it_n c7 ht
        refine lv_aload_n hx hb dX4_faultOfAct_41 rfl (lv_at hl 1 rfl) ?_
        refine lv_iload_n hx hb dX4_faultOfAct_42 rfl (lv_at hl 2 rfl) ?_
        obtain ⟨q8, hq8, ht⟩ := it_b ht
        refine q_ri (va_runV (As := [.int p0]) (rest := []) ⟨hx, hb, hml, hown, hts⟩ (kX4_faultOfReadersAct l D cI cZ cO d0 S0 p0 q8 hq8) (cwV 1 hts gX4_faultOfAct_X4_faultOfReadersAct rfl rfl rfl (by decide +kernel) ⟨Nat.le_of_ble_eq_true rfl, Nat.le_of_ble_eq_true rfl⟩) (q_rV (As := [.int p0]) hE hP (q0 := 0) (ci := 4) rfl rfl) rfl rfl hl.1 rfl (lv_room (Nat.le_of_ble_eq_true rfl)) dX4_faultOfAct_43 ⟨Nat.le_of_ble_eq_true rfl, Nat.le_of_ble_eq_true rfl⟩) (fun b9 => ?_)
        refine lv_goto (tgt := 50) hx hb dX4_faultOfAct_46 (by decide) ?_
        have ht := Option.some.inj ht
        exact W.iret (v := q8) hx hb hr (fun t e1 hW => ⟨_, rfl, ⟨ht, trivial⟩, e1⟩) (fun q h => absurd h List.not_mem_nil) dX4_faultOfAct_50
    · have ht := it_n c5 ht
      refine lv_aload_n hx hb dX4_faultOfAct_25 rfl (lv_at hl 1 rfl) ?_
      refine lv_iload_n hx hb dX4_faultOfAct_26 rfl (lv_at hl 2 rfl) ?_
      obtain ⟨q10, hq10, ht⟩ := it_b ht
      refine q_ri (va_runV (As := [.int p0]) (rest := []) ⟨hx, hb, hml, hown, hts⟩ (kX4_faultOfPersonsAct l D cI cZ cO d0 S0 p0 q10 hq10) (cwV 1 hts gX4_faultOfAct_X4_faultOfPersonsAct rfl rfl rfl (by decide +kernel) ⟨Nat.le_of_ble_eq_true rfl, Nat.le_of_ble_eq_true rfl⟩) (q_rV (As := [.int p0]) hE hP (q0 := 0) (ci := 4) rfl rfl) rfl rfl hl.1 rfl (lv_room (Nat.le_of_ble_eq_true rfl)) dX4_faultOfAct_27 ⟨Nat.le_of_ble_eq_true rfl, Nat.le_of_ble_eq_true rfl⟩) (fun b11 => ?_)
      have ht := Option.some.inj ht
      exact W.iret (v := q10) hx hb hr (fun t e1 hW => ⟨_, rfl, ⟨ht, trivial⟩, e1⟩) (fun q h => absurd h List.not_mem_nil) dX4_faultOfAct_30
  · have ht := it_p c3 ht
    refine lv_bipush (v := (-6)) hx hb dX4_faultOfAct_12 (by decide) ?_
    have ht := Option.some.inj ht
    exact W.iret (v := (-6)) hx hb hr (fun t e1 hW => ⟨_, rfl, ⟨ht, trivial⟩, e1⟩) (fun q h => absurd h List.not_mem_nil) dX4_faultOfAct_14
