abbrev rmX9_allNoted : Room := { frames := 0, cells := 0, slots := 0, locals := 0 }
set_option maxHeartbeats 4000000 in
set_option maxRecDepth 100000 in
theorem kX9_allNoted (l : Launch) (D : va_G) (cI cZ cO : ClassId) (d0 : Nat → Nat) (S0 : St) (tg : Int32) (ht : xX9_allNoted S0 = some tg) : Met l yX9_allNoted wsX9_allNoted rmX9_allNoted (q_PR D cI cZ cO [.ref (d0 0)] (wg9 cI cZ d0 S0)) (vp_Si (fun x => x = tg ∧ True)) 0 0 (fun _ => False) := by
  refine Met.ofW (cc := cX9_allNoted) (maxL := 3) (ret := (some .int)) (by decide) rfl ?_
  intro p e s m args below meth c s₁ B hml hv
  obtain ⟨rfl, hE, hP⟩ := hv
  have hx := B.exec
  have hb := B.bytes
  have hr := B.returns
  have hts := atoms_spec (ws := wsX9_allNoted) B.pre
  have hown : s.vm.findClass RX9 = some m.cls := findClass_of_methodNamed B.named
  have hlocks := B.notSynchronized
  have hi9 : ∀ w ∈ u_ws RX9 TX9 37, w ∈ wsX9_allNoted := by decide +kernel
  have hw0 := hts (.fieldLink RX9 13 "HailNamesModel" "noted" "[I") (by decide +kernel)
  have hl := lv_entry ([.ref (d0 0)]) (n := 3) (Nat.le_of_ble_eq_true rfl)
  rw [lg_entry_eq]
  generalize (lg_sl ([.ref (d0 0)]) ++ List.replicate (3 - (lg_sl ([.ref (d0 0)])).length) Slot.unset).toArray = ls at hl ⊢
  have hl : lv_has ls 3 [(0, .ref (d0 0))] := hl
  have ht := (xX9_allNoted_s S0).symm.trans ht
  obtain ⟨Q, hQ⟩ : ∃ Q, Q = MQ below (vp_Si (fun x => x = tg ∧ True)) ([.ref (d0 0)] : List Value).toArray s 0 0 (fun _ => False) := ⟨_, rfl⟩
  rw [← hQ]
  have L4 : ∀ (n : Nat) (x1 : Int32) (x2 : Int32) (ls : Array Slot) (_ : lv_has ls 3 [(0, .ref (d0 0)), (1, .int x1), (2, .int x2)]) (_ : xX9_allNoted_h4 S0 n x1 x2 = some tg), W p l e (headSpec wsX9_allNoted rmX9_allNoted).room s m ([.ref (d0 0)] : List Value).toArray below meth c s.heap [] 0 0 Q (F0 m 4 ls []) := by
    intro n
    induction n with
    | zero =>
      intro x1 x2 ls hl ht
      exact it_z ht
    | succ n4 ih4 =>
      intro x1 x2 ls hl ht
      have ht := (xX9_allNoted_h4_s S0 n4 x1 x2).symm.trans ht
      refine lv_iload_n hx hb dX9_allNoted_4 rfl (lv_at hl 2 rfl) ?_
      refine lv_bipush (v := 8) hx hb dX9_allNoted_5 (by decide) ?_
      refine lv_icmp_ge (tgt := 25) hx hb dX9_allNoted_7 (by decide) (fun c1 => ?_) (fun c1 => ?_)
      · have ht := it_p c1 ht
        refine lv_iload_n hx hb dX9_allNoted_25 rfl (lv_at hl 1 rfl) ?_
        subst hQ
        have ht := Option.some.inj ht
        exact W.iret (v := x1) hx hb hr (fun t e1 hW => ⟨_, rfl, ⟨ht, trivial⟩, e1⟩) (fun q h => absurd h List.not_mem_nil) dX9_allNoted_26
      · have ht := it_n c1 ht
        refine lv_iload_n hx hb dX9_allNoted_10 rfl (lv_at hl 1 rfl) ?_
        refine lv_aload_n hx hb dX9_allNoted_11 rfl (lv_at hl 0 rfl) ?_
        refine va_get (D := D) (ci := 9) (v := .ref (d0 2)) (C := RX9) (T := TX9) (N := 37) hx hb hts hi9 hown hE.1 hP 0 rfl rfl 1 (by decide) hw0 (fun _ h9 => h9) rfl dX9_allNoted_12 ?_
        refine lv_iload_n hx hb dX9_allNoted_15 rfl (lv_at hl 2 rfl) ?_
        obtain ⟨g2, ht⟩ := it_g ht
        refine va_iald hx hb hE.1 hP 2 0 rfl rfl (q_in g2) dX9_allNoted_16 ?_
        refine lv_iadd hx hb dX9_allNoted_17 ?_
        refine lv_istore_n (lv' := [(1, .int (x1 + (S0 1 x2.toNatClampNeg))), (0, .ref (d0 0)), (2, .int x2)]) hx hb dX9_allNoted_18 rfl hl (by decide) rfl (fun ls hl => ?_)
        refine lv_iinc (v := x2 + 1) (lv' := [(2, .int (x2 + 1)), (1, .int (x1 + (S0 1 x2.toNatClampNeg))), (0, .ref (d0 0))]) hx hb dX9_allNoted_19 hl (k := 2) rfl rfl (by decide) rfl (fun ls hl => ?_)
        refine lv_goto (tgt := 4) hx hb dX9_allNoted_22 (by decide) ?_
        exact ih4 (x1 + (S0 1 x2.toNatClampNeg)) (x2 + 1) ls (lv_sub hl [2, 1, 0] rfl) ht
  refine lv_iconst (v := 0) hx hb dX9_allNoted_0 (by decide) ?_
  refine lv_istore_n (lv' := [(1, .int 0), (0, .ref (d0 0))]) hx hb dX9_allNoted_1 rfl hl (by decide) rfl (fun ls hl => ?_)
  refine lv_iconst (v := 0) hx hb dX9_allNoted_2 (by decide) ?_
  refine lv_istore_n (lv' := [(2, .int 0), (1, .int 0), (0, .ref (d0 0))]) hx hb dX9_allNoted_3 rfl hl (by decide) rfl (fun ls hl => ?_)
  exact L4 5000 0 0 ls (lv_sub hl [2, 1, 0] rfl) ht
abbrev rmX9_storm : Room := { frames := 5, cells := 0, slots := 0, locals := 115 }
set_option maxHeartbeats 4000000 in
set_option maxRecDepth 100000 in
theorem kX9_storm (l : Launch) (D : va_G) (cI cZ cO : ClassId) (d0 : Nat → Nat) (sz : Nat) (S0 : St) (p0 : Int32) (p1 : Int32) (p2 : Int32) (tg : Int32 × St) (ht : xX9_storm p0 p1 p2 S0 = some tg) : Met l yX9_storm wsX9_storm rmX9_storm (q_PM D cI cZ cO [.ref (d0 0), .int p0, .int p1, .int p2] sz (wg9 cI cZ d0 S0)) (va_Qi (fun x (_ : Unit) => x = tg.1 ∧ True) (fun _ t => va_P D vwCl (wg9 cI cZ d0 tg.2) t.heap) (va_A (wg9 cI cZ d0 S0) sz)) 0 0 (va_A (wg9 cI cZ d0 S0) sz) := by
  refine Met.ofW (cc := cX9_storm) (maxL := 6) (ret := (some .int)) (by decide) rfl ?_
  intro p e s m args below meth c s₁ B hml hv
  obtain ⟨rfl, hsz, hE, hP, hD0⟩ := hv
  have hx := B.exec
  have hb := B.bytes
  have hr := B.returns
  have hts := atoms_spec (ws := wsX9_storm) B.pre
  have hown : s.vm.findClass RX9 = some m.cls := findClass_of_methodNamed B.named
  have hlocks := B.notSynchronized
  have hi9 : ∀ w ∈ u_ws RX9 TX9 37, w ∈ wsX9_storm := by decide +kernel
  have hw0 := hts (.constantLong RX9 328 (9999)) (by decide +kernel)
  have hw1 := hts (.constantLong RX9 95 (99)) (by decide +kernel)
  have hw2 := hts (.constantLong RX9 233 (2)) (by decide +kernel)
  have hw3 := hts (.fieldLink RX9 162 "HailNamesModel" "lostAll" "I") (by decide +kernel)
  have hw4 := hts (.constantLong RX9 330 (75)) (by decide +kernel)
  have hw5 := hts (.constantLong RX9 332 (74)) (by decide +kernel)
  have hw6 := hts (.constantLong RX9 334 (65537)) (by decide +kernel)
  subst hsz
  have hD1 := hD0.self (sz := s.heap.size)
  generalize hAe : va_A (wg9 cI cZ d0 S0) s.heap.size = A at hD1 ⊢
  have hA : ∀ q : Nat, s.heap.size ≤ q → A q := fun q h => by rw [← hAe]; exact Or.inr h
  have hS : va_S A s.heap s.heap [] := va_S.rf
  have hD : ∀ (S0 : St), va_D A (wg9 cI cZ d0 S0) := fun S0 => q_D hD1 rfl
  have hl := lv_entry ([.ref (d0 0), .int p0, .int p1, .int p2]) (n := 6) (Nat.le_of_ble_eq_true rfl)
  rw [lg_entry_eq]
  generalize (lg_sl ([.ref (d0 0), .int p0, .int p1, .int p2]) ++ List.replicate (6 - (lg_sl ([.ref (d0 0), .int p0, .int p1, .int p2])).length) Slot.unset).toArray = ls at hl ⊢
  have hl : lv_has ls 6 [(0, .ref (d0 0)), (1, .int p0), (2, .int p1), (3, .int p2)] := hl
  have ht := (xX9_storm_s p0 p1 p2 S0).symm.trans ht
  obtain ⟨Q, hQ⟩ : ∃ Q, Q = MQ below (va_Qi (fun x (_ : Unit) => x = tg.1 ∧ True) (fun _ t => va_P D vwCl (wg9 cI cZ d0 tg.2) t.heap) A) ([.ref (d0 0), .int p0, .int p1, .int p2] : List Value).toArray s 0 0 A := ⟨_, rfl⟩
  rw [← hQ]
  have L55 : ∀ (n : Nat) (x4 : Int32) (x5 : Int32) (S0 : St) (H : Heap) (locs : List Loc) (_ : va_P D vwCl (wg9 cI cZ d0 S0) H) (_ : va_S A s.heap H locs) (ls : Array Slot) (_ : lv_has ls 6 [(0, .ref (d0 0)), (2, .int p1), (3, .int p2), (4, .int x4), (5, .int x5)]) (_ : xX9_storm_h55 p0 p1 p2 n x4 x5 S0 = some tg), W p l e (headSpec wsX9_storm rmX9_storm).room s m ([.ref (d0 0), .int p0, .int p1, .int p2] : List Value).toArray below meth c H locs 0 0 Q (F0 m 55 ls []) := by
    intro n
    induction n with
    | zero =>
      intro x4 x5 S0 H locs hP hS ls hl ht
      exact it_z ht
    | succ n55 ih55 =>
      intro x4 x5 S0 H locs hP hS ls hl ht
      have ht := (xX9_storm_h55_s p0 p1 p2 n55 x4 x5 S0).symm.trans ht
      have J127 : ∀ (z1 : Int32) (S0 : St) (H : Heap) (locs : List Loc) (_ : va_P D vwCl (wg9 cI cZ d0 S0) H) (_ : va_S A s.heap H locs) (ls : Array Slot) (_ : lv_has ls 6 []) (_ : xX9_storm_h127 p0 p1 p2 z1 S0 = some tg), W p l e (headSpec wsX9_storm rmX9_storm).room s m ([.ref (d0 0), .int p0, .int p1, .int p2] : List Value).toArray below meth c H locs 0 0 Q (F0 m 127 ls [.int z1, .ref (d0 0)]) := by
        intro z1 S0 H locs hP hS ls hl ht
        have ht := (xX9_storm_h127_s p0 p1 p2 z1 S0).symm.trans ht
        obtain ⟨q17, hq17, ht⟩ := it_b ht
        have hFc := q_freeW (hD S0) hS hA
        refine q_mi (va_runV (As := [.int z1]) (rest := []) ⟨hx, hb, hml, hown, hts⟩ (kX9_back l D cI cZ cO d0 H.size S0 z1 q17 hq17) (cwV 1 hts gX9_storm_X9_back rfl rfl rfl (by decide +kernel) ⟨Nat.le_of_ble_eq_true rfl, Nat.le_of_ble_eq_true rfl⟩) (q_mV (As := [.int z1]) hE hP (hD S0) (q0 := 0) (ci := 9) rfl rfl) rfl rfl hl.1 rfl (lv_room (Nat.le_of_ble_eq_true rfl)) dX9_storm_127 ⟨Nat.le_of_ble_eq_true rfl, Nat.le_of_ble_eq_true rfl⟩) hS hFc (fun H locs b18 hP1 hk hS => ?_)
        have hP : va_P D vwCl (wg9 cI cZ d0 q17.2) H := hP1
        subst hQ
        obtain rfl := Option.some.inj ht
        exact W.iret (v := q17.1) hx hb hr (fun t e1 hW => ⟨⟨_, (), rfl, ⟨rfl, trivial⟩, q_at e1 hP⟩, hS.F e1⟩) hS.2.2 dX9_storm_130
      refine lv_iload hx hb dX9_storm_55 (lv_at hl 4 rfl) ?_
      refine lv_iload_n hx hb dX9_storm_57 rfl (lv_at hl 1 rfl) ?_
      refine lv_icmp_ge (tgt := 99) hx hb dX9_storm_58 (by decide) (fun c9 => ?_) (fun c9 => ?_)
      · have ht := it_p c9 ht
        refine lv_aload_n hx hb dX9_storm_99 rfl (lv_at hl 0 rfl) ?_
        refine lv_iload_n hx hb dX9_storm_100 rfl (lv_at hl 2 rfl) ?_
        refine lv_if_ne (tgt := 111) hx hb dX9_storm_101 (by decide) (fun c10 => ?_) (fun c10 => ?_)
        · have ht := it_n c10 ht
          refine lv_iload_n hx hb dX9_storm_111 rfl (lv_at hl 2 rfl) ?_
          refine lv_iconst (v := 1) hx hb dX9_storm_112 (by decide) ?_
          refine lv_icmp_ne (tgt := 123) hx hb dX9_storm_113 (by decide) (fun c11 => ?_) (fun c11 => ?_)
          · have ht := it_n c11 ht
            refine lv_aload_n hx hb dX9_storm_123 rfl (lv_at hl 0 rfl) ?_
            obtain ⟨q12, hq12, ht⟩ := it_b ht
            refine q_ri (va_runV (As := []) (rest := [.ref (d0 0)]) ⟨hx, hb, hml, hown, hts⟩ (kX9_allNoted l D cI cZ cO d0 S0 q12 hq12) (cwV 0 hts gX9_storm_X9_allNoted rfl rfl rfl (by decide +kernel) ⟨Nat.le_of_ble_eq_true rfl, Nat.le_of_ble_eq_true rfl⟩) (q_rV (As := []) hE hP (q0 := 0) (ci := 9) rfl rfl) rfl rfl hl.1 rfl (lv_room (Nat.le_of_ble_eq_true rfl)) dX9_storm_124 ⟨Nat.le_of_ble_eq_true rfl, Nat.le_of_ble_eq_true rfl⟩) (fun b13 => ?_)
            exact J127 q12 S0 _ _ hP hS ls (lv_sub hl [] rfl) ht
          · have ht := it_p c11 ht
            refine lv_aload_n hx hb dX9_storm_116 rfl (lv_at hl 0 rfl) ?_
            refine va_get (D := D) (ci := 9) (v := .int (S0 21 0)) (C := RX9) (T := TX9) (N := 37) hx hb hts hi9 hown hE.1 hP 0 rfl rfl 21 (by decide) hw3 (fun _ h9 => h9) rfl dX9_storm_117 ?_
            refine lv_goto (tgt := 127) hx hb dX9_storm_120 (by decide) ?_
            exact J127 (S0 21 0) S0 _ _ hP hS ls (lv_sub hl [] rfl) ht
        · have ht := it_p c10 ht
          refine lv_aload_n hx hb dX9_storm_104 rfl (lv_at hl 0 rfl) ?_
          obtain ⟨q14, hq14, ht⟩ := it_b ht
          refine q_ri (va_runV (As := []) (rest := [.ref (d0 0)]) ⟨hx, hb, hml, hown, hts⟩ (kX9_lying l D cI cZ cO d0 S0 q14 hq14) (cwV 0 hts gX9_storm_X9_lying rfl rfl rfl (by decide +kernel) ⟨Nat.le_of_ble_eq_true rfl, Nat.le_of_ble_eq_true rfl⟩) (q_rV (As := []) hE hP (q0 := 0) (ci := 9) rfl rfl) rfl rfl hl.1 rfl (lv_room (Nat.le_of_ble_eq_true rfl)) dX9_storm_105 ⟨Nat.le_of_ble_eq_true rfl, Nat.le_of_ble_eq_true rfl⟩) (fun b15 => ?_)
          refine lv_goto (tgt := 127) hx hb dX9_storm_108 (by decide) ?_
          exact J127 q14 S0 _ _ hP hS ls (lv_sub hl [] rfl) ht
      · have ht := it_n c9 ht
        refine lv_ldc2 hx hb hown hw4 dX9_storm_61 ?_
        refine lv_iload hx hb dX9_storm_64 (lv_at hl 3 rfl) ?_
        refine lv_i2l (v := x4.toInt64) hx hb dX9_storm_66 rfl ?_
        refine lv_lmul hx hb dX9_storm_67 ?_
        refine lv_ldc2 hx hb hown hw5 dX9_storm_68 ?_
        refine lv_ladd hx hb dX9_storm_71 ?_
        refine lv_ldc2 hx hb hown hw6 dX9_storm_72 ?_
        refine q_lrem hx hb dX9_storm_75 (by decide +kernel) ?_
        refine lv_l2i (v := (q_reml ((75 * x4.toInt64) + 74) 65537).toInt32) hx hb dX9_storm_76 rfl ?_
        refine lv_istore (lv' := [(4, .int ((q_reml ((75 * x4.toInt64) + 74) 65537).toInt32)), (0, .ref (d0 0)), (2, .int p1), (3, .int p2), (5, .int x5)]) hx hb dX9_storm_77 hl (by decide) rfl (fun ls hl => ?_)
        refine lv_aload_n hx hb dX9_storm_79 rfl (lv_at hl 1 rfl) ?_
        refine lv_iload hx hb dX9_storm_80 (lv_at hl 0 rfl) ?_
        refine lv_bipush (v := 8) hx hb dX9_storm_82 (by decide) ?_
        refine q_irem hx hb dX9_storm_84 (by decide +kernel) ?_
        refine lv_iload hx hb dX9_storm_85 (lv_at hl 0 rfl) ?_
        refine lv_bipush (v := 8) hx hb dX9_storm_87 (by decide) ?_
        refine lv_idiv hx hb dX9_storm_89 (by decide +kernel) ?_
        obtain ⟨q16, hq16, ht⟩ := it_b ht
        have hFc := q_freeW (hD S0) hS hA
        refine q_mv (va_runV (As := [.int (q_rem ((q_reml ((75 * x4.toInt64) + 74) 65537).toInt32) 8), .int (((q_reml ((75 * x4.toInt64) + 74) 65537).toInt32) / 8)]) (rest := []) ⟨hx, hb, hml, hown, hts⟩ (kX9_drawn l D cI cZ cO d0 H.size S0 (q_rem ((q_reml ((75 * x4.toInt64) + 74) 65537).toInt32) 8) (((q_reml ((75 * x4.toInt64) + 74) 65537).toInt32) / 8) q16 hq16) (cwV 2 hts gX9_storm_X9_drawn rfl rfl rfl (by decide +kernel) ⟨Nat.le_of_ble_eq_true rfl, Nat.le_of_ble_eq_true rfl⟩) (q_mV (As := [.int (q_rem ((q_reml ((75 * x4.toInt64) + 74) 65537).toInt32) 8), .int (((q_reml ((75 * x4.toInt64) + 74) 65537).toInt32) / 8)]) hE hP (hD S0) (q0 := 0) (ci := 9) rfl rfl) rfl rfl hl.1 rfl (lv_room (Nat.le_of_ble_eq_true rfl)) dX9_storm_90 ⟨Nat.le_of_ble_eq_true rfl, Nat.le_of_ble_eq_true rfl⟩) hS hFc (fun H locs hP1 hk hS => ?_)
        have hP : va_P D vwCl (wg9 cI cZ d0 q16) H := hP1
        refine lv_iinc (v := x5 + 1) (lv' := [(5, .int (x5 + 1)), (4, .int ((q_reml ((75 * x4.toInt64) + 74) 65537).toInt32)), (0, .ref (d0 0)), (2, .int p1), (3, .int p2)]) hx hb dX9_storm_93 hl (k := 4) rfl rfl (by decide) rfl (fun ls hl => ?_)
        refine lv_goto (tgt := 55) hx hb dX9_storm_96 (by decide) ?_
        exact ih55 ((q_reml ((75 * x4.toInt64) + 74) 65537).toInt32) (x5 + 1) q16 _ _ hP hS ls (lv_sub hl [2, 3, 4, 1, 0] rfl) ht
  refine lv_iload_n hx hb dX9_storm_0 rfl (lv_at hl 1 rfl) ?_
  refine lv_i2l (v := p0.toInt64) hx hb dX9_storm_1 rfl ?_
  refine lv_lconst (v := 0) hx hb dX9_storm_2 (by decide) ?_
  refine lv_ldc2 hx hb hown hw0 dX9_storm_3 ?_
  refine q_ri (va_runS (As := [.long p0.toInt64, .long 0, .long 9999]) (rest := []) ⟨hx, hb, hml, hown, hts⟩ (kX9_in l D cI cZ cO p0.toInt64 0 9999) (va_cwS 3 hts gX9_storm_X9_in rfl rfl rfl (by decide +kernel) ⟨Nat.le_of_ble_eq_true rfl, Nat.le_of_ble_eq_true rfl⟩) (q_rS hE q_nil) rfl rfl hl.1 rfl (lv_room (Nat.le_of_ble_eq_true rfl)) dX9_storm_6 ⟨Nat.le_of_ble_eq_true rfl, Nat.le_of_ble_eq_true rfl⟩) (fun b1 => ?_)
  refine lv_if_eq (tgt := 36) hx hb dX9_storm_9 (by decide) (fun c2 => ?_) (fun c2 => ?_)
  · have ht := it_p c2 ht
    refine lv_bipush (v := (-2)) hx hb dX9_storm_36 (by decide) ?_
    subst hQ
    obtain rfl := Option.some.inj ht
    exact W.iret (v := (-2)) hx hb hr (fun t e1 hW => ⟨⟨_, (), rfl, ⟨rfl, trivial⟩, q_at e1 hP⟩, hS.F e1⟩) hS.2.2 dX9_storm_38
  · have ht := it_n c2 ht
    refine lv_iload_n hx hb dX9_storm_12 rfl (lv_at hl 2 rfl) ?_
    refine lv_i2l (v := p1.toInt64) hx hb dX9_storm_13 rfl ?_
    refine lv_lconst (v := 1) hx hb dX9_storm_14 (by decide) ?_
    refine lv_ldc2 hx hb hown hw1 dX9_storm_15 ?_
    refine q_ri (va_runS (As := [.long p1.toInt64, .long 1, .long 99]) (rest := []) ⟨hx, hb, hml, hown, hts⟩ (kX9_in l D cI cZ cO p1.toInt64 1 99) (va_cwS 3 hts gX9_storm_X9_in rfl rfl rfl (by decide +kernel) ⟨Nat.le_of_ble_eq_true rfl, Nat.le_of_ble_eq_true rfl⟩) (q_rS hE q_nil) rfl rfl hl.1 rfl (lv_room (Nat.le_of_ble_eq_true rfl)) dX9_storm_18 ⟨Nat.le_of_ble_eq_true rfl, Nat.le_of_ble_eq_true rfl⟩) (fun b3 => ?_)
    refine lv_if_eq (tgt := 36) hx hb dX9_storm_21 (by decide) (fun c4 => ?_) (fun c4 => ?_)
    · have ht := it_p c4 ht
      refine lv_bipush (v := (-2)) hx hb dX9_storm_36 (by decide) ?_
      subst hQ
      obtain rfl := Option.some.inj ht
      exact W.iret (v := (-2)) hx hb hr (fun t e1 hW => ⟨⟨_, (), rfl, ⟨rfl, trivial⟩, q_at e1 hP⟩, hS.F e1⟩) hS.2.2 dX9_storm_38
    · have ht := it_n c4 ht
      refine lv_iload_n hx hb dX9_storm_24 rfl (lv_at hl 3 rfl) ?_
      refine lv_i2l (v := p2.toInt64) hx hb dX9_storm_25 rfl ?_
      refine lv_lconst (v := 0) hx hb dX9_storm_26 (by decide) ?_
      refine lv_ldc2 hx hb hown hw2 dX9_storm_27 ?_
      refine q_ri (va_runS (As := [.long p2.toInt64, .long 0, .long 2]) (rest := []) ⟨hx, hb, hml, hown, hts⟩ (kX9_in l D cI cZ cO p2.toInt64 0 2) (va_cwS 3 hts gX9_storm_X9_in rfl rfl rfl (by decide +kernel) ⟨Nat.le_of_ble_eq_true rfl, Nat.le_of_ble_eq_true rfl⟩) (q_rS hE q_nil) rfl rfl hl.1 rfl (lv_room (Nat.le_of_ble_eq_true rfl)) dX9_storm_30 ⟨Nat.le_of_ble_eq_true rfl, Nat.le_of_ble_eq_true rfl⟩) (fun b5 => ?_)
      refine lv_if_ne (tgt := 39) hx hb dX9_storm_33 (by decide) (fun c6 => ?_) (fun c6 => ?_)
      · have ht := it_n c6 ht
        refine lv_aload_n hx hb dX9_storm_39 rfl (lv_at hl 0 rfl) ?_
        refine lv_iconst (v := 0) hx hb dX9_storm_40 (by decide) ?_
        obtain ⟨q7, hq7, ht⟩ := it_b ht
        have hFc := q_freeW (hD S0) hS hA
        refine q_mv (va_runV (As := [.int 0]) (rest := []) ⟨hx, hb, hml, hown, hts⟩ (kX9_carryAll l D cI cZ cO d0 s.heap.size S0 0 q7 hq7) (cwV 1 hts gX9_storm_X9_carryAll rfl rfl rfl (by decide +kernel) ⟨Nat.le_of_ble_eq_true rfl, Nat.le_of_ble_eq_true rfl⟩) (q_mV (As := [.int 0]) hE hP (hD S0) (q0 := 0) (ci := 9) rfl rfl) rfl rfl hl.1 rfl (lv_room (Nat.le_of_ble_eq_true rfl)) dX9_storm_41 ⟨Nat.le_of_ble_eq_true rfl, Nat.le_of_ble_eq_true rfl⟩) hS hFc (fun H locs hP1 hk hS => ?_)
        have hP : va_P D vwCl (wg9 cI cZ d0 q7) H := hP1
        refine lv_aload_n hx hb dX9_storm_44 rfl (lv_at hl 0 rfl) ?_
        refine lv_iconst (v := 0) hx hb dX9_storm_45 (by decide) ?_
        refine va_put (D := D) (ci := 9) (v := .int 0) (ty := .int) (C := RX9) (T := TX9) (N := 37) hx hb hts hi9 tyX9 tyX9_ok nmX9 hown hE.1 hP (hD _) hS 0 rfl rfl 21 (by decide) hw3 (fun _ h9 => h9) rfl (by decide +kernel) rfl rfl (Nat.le_of_ble_eq_true rfl) dX9_storm_46 (fun H locs hP _ hS => ?_)
        have hP : va_P D vwCl (wg9 cI cZ d0 (q_su q7 21 0 0)) H := hP
        obtain ⟨T8, eT8⟩ : ∃ z : St, z = q_su q7 21 0 0 := ⟨_, rfl⟩
        rw [← eT8] at hP
        have ht := it_l ht eT8
        refine lv_iload_n hx hb dX9_storm_49 rfl (lv_at hl 1 rfl) ?_
        refine lv_istore (lv' := [(4, .int p0), (0, .ref (d0 0)), (1, .int p0), (2, .int p1), (3, .int p2)]) hx hb dX9_storm_50 hl (by decide) rfl (fun ls hl => ?_)
        refine lv_iconst (v := 0) hx hb dX9_storm_52 (by decide) ?_
        refine lv_istore (lv' := [(5, .int 0), (4, .int p0), (0, .ref (d0 0)), (1, .int p0), (2, .int p1), (3, .int p2)]) hx hb dX9_storm_53 hl (by decide) rfl (fun ls hl => ?_)
        exact L55 5000 p0 0 T8 _ _ hP hS ls (lv_sub hl [2, 4, 5, 1, 0] rfl) ht
      · have ht := it_p c6 ht
        refine lv_bipush (v := (-2)) hx hb dX9_storm_36 (by decide) ?_
        subst hQ
        obtain rfl := Option.some.inj ht
        exact W.iret (v := (-2)) hx hb hr (fun t e1 hW => ⟨⟨_, (), rfl, ⟨rfl, trivial⟩, q_at e1 hP⟩, hS.F e1⟩) hS.2.2 dX9_storm_38
abbrev rmX9_pass : Room := { frames := 0, cells := 0, slots := 0, locals := 0 }
set_option maxHeartbeats 4000000 in
set_option maxRecDepth 100000 in
theorem kX9_pass (l : Launch) (D : va_G) (cI cZ cO : ClassId) (d0 : Nat → Nat) (sz : Nat) (S0 : St) (p0 : Int32) (tg : Int32 × St) (ht : xX9_pass p0 S0 = some tg) : Met l yX9_pass wsX9_pass rmX9_pass (q_PM D cI cZ cO [.ref (d0 0), .int p0] sz (wg9 cI cZ d0 S0)) (va_Qi (fun x (_ : Unit) => x = tg.1 ∧ True) (fun _ t => va_P D vwCl (wg9 cI cZ d0 tg.2) t.heap) (va_A (wg9 cI cZ d0 S0) sz)) 0 0 (va_A (wg9 cI cZ d0 S0) sz) := by
  refine Met.ofW (cc := cX9_pass) (maxL := 3) (ret := (some .int)) (by decide) rfl ?_
  intro p e s m args below meth c s₁ B hml hv
  obtain ⟨rfl, hsz, hE, hP, hD0⟩ := hv
  have hx := B.exec
  have hb := B.bytes
  have hr := B.returns
  have hts := atoms_spec (ws := wsX9_pass) B.pre
  have hown : s.vm.findClass RX9 = some m.cls := findClass_of_methodNamed B.named
  have hlocks := B.notSynchronized
  have hi9 : ∀ w ∈ u_ws RX9 TX9 37, w ∈ wsX9_pass := by decide +kernel
  have hw0 := hts (.fieldLink RX9 342 "HailNamesModel" "isWriting" "Z") (by decide +kernel)
  have hw1 := hts (.fieldLink RX9 71 "HailNamesModel" "kept" "[I") (by decide +kernel)
  have hw2 := hts (.fieldLink RX9 345 "HailNamesModel" "keptAt" "I") (by decide +kernel)
  subst hsz
  have hD1 := hD0.self (sz := s.heap.size)
  generalize hAe : va_A (wg9 cI cZ d0 S0) s.heap.size = A at hD1 ⊢
  have hA : ∀ q : Nat, s.heap.size ≤ q → A q := fun q h => by rw [← hAe]; exact Or.inr h
  have hS : va_S A s.heap s.heap [] := va_S.rf
  have hD : ∀ (S0 : St), va_D A (wg9 cI cZ d0 S0) := fun S0 => q_D hD1 rfl
  have hl := lv_entry ([.ref (d0 0), .int p0]) (n := 3) (Nat.le_of_ble_eq_true rfl)
  rw [lg_entry_eq]
  generalize (lg_sl ([.ref (d0 0), .int p0]) ++ List.replicate (3 - (lg_sl ([.ref (d0 0), .int p0])).length) Slot.unset).toArray = ls at hl ⊢
  have hl : lv_has ls 3 [(0, .ref (d0 0)), (1, .int p0)] := hl
  have ht := (xX9_pass_s p0 S0).symm.trans ht
  obtain ⟨Q, hQ⟩ : ∃ Q, Q = MQ below (va_Qi (fun x (_ : Unit) => x = tg.1 ∧ True) (fun _ t => va_P D vwCl (wg9 cI cZ d0 tg.2) t.heap) A) ([.ref (d0 0), .int p0] : List Value).toArray s 0 0 A := ⟨_, rfl⟩
  rw [← hQ]
  have J20 : ∀ (z0 : Int32) (S0 : St) (H : Heap) (locs : List Loc) (_ : va_P D vwCl (wg9 cI cZ d0 S0) H) (_ : va_S A s.heap H locs) (ls : Array Slot) (_ : lv_has ls 3 [(0, .ref (d0 0))]) (_ : xX9_pass_h20 p0 z0 S0 = some tg), W p l e (headSpec wsX9_pass rmX9_pass).room s m ([.ref (d0 0), .int p0] : List Value).toArray below meth c H locs 0 0 Q (F0 m 20 ls [.int z0]) := by
    intro z0 S0 H locs hP hS ls hl ht
    have ht := (xX9_pass_h20_s p0 z0 S0).symm.trans ht
    refine lv_istore_n (lv' := [(2, .int z0), (0, .ref (d0 0))]) hx hb dX9_pass_20 rfl hl (by decide) rfl (fun ls hl => ?_)
    refine lv_aload_n hx hb dX9_pass_21 rfl (lv_at hl 1 rfl) ?_
    refine va_get (D := D) (ci := 9) (v := .ref (d0 34)) (C := RX9) (T := TX9) (N := 37) hx hb hts hi9 hown hE.1 hP 0 rfl rfl 33 (by decide) hw1 (fun _ h9 => h9) rfl dX9_pass_22 ?_
    refine lv_aload_n hx hb dX9_pass_25 rfl (lv_at hl 1 rfl) ?_
    refine va_get (D := D) (ci := 9) (v := .int (S0 35 0)) (C := RX9) (T := TX9) (N := 37) hx hb hts hi9 hown hE.1 hP 0 rfl rfl 35 (by decide) hw2 (fun _ h9 => h9) rfl dX9_pass_26 ?_
    refine lv_iload_n hx hb dX9_pass_29 rfl (lv_at hl 0 rfl) ?_
    obtain ⟨g3, ht⟩ := it_g ht
    refine va_iast hx hb hE.1 hP (hD _) hS 21 0 rfl rfl (q_in g3) dX9_pass_30 (fun H locs hP _ hS => ?_)
    have hP : va_P D vwCl (wg9 cI cZ d0 (q_su S0 33 ((S0 35 0).toNatClampNeg) z0)) H := hP
    obtain ⟨T4, eT4⟩ : ∃ z : St, z = q_su S0 33 ((S0 35 0).toNatClampNeg) z0 := ⟨_, rfl⟩
    rw [← eT4] at hP
    have ht := it_l ht eT4
    refine lv_aload_n hx hb dX9_pass_31 rfl (lv_at hl 1 rfl) ?_
    refine lv_dup hx hb dX9_pass_32 rfl ?_
    refine va_get (D := D) (ci := 9) (v := .int (T4 35 0)) (C := RX9) (T := TX9) (N := 37) hx hb hts hi9 hown hE.1 hP 0 rfl rfl 35 (by decide) hw2 (fun _ h9 => h9) rfl dX9_pass_33 ?_
    refine lv_iconst (v := 1) hx hb dX9_pass_36 (by decide) ?_
    refine lv_iadd hx hb dX9_pass_37 ?_
    refine va_put (D := D) (ci := 9) (v := .int ((T4 35 0) + 1)) (ty := .int) (C := RX9) (T := TX9) (N := 37) hx hb hts hi9 tyX9 tyX9_ok nmX9 hown hE.1 hP (hD _) hS 0 rfl rfl 35 (by decide) hw2 (fun _ h9 => h9) rfl (by decide +kernel) rfl rfl (Nat.le_of_ble_eq_true rfl) dX9_pass_38 (fun H locs hP _ hS => ?_)
    have hP : va_P D vwCl (wg9 cI cZ d0 (q_su T4 35 0 ((T4 35 0) + 1))) H := hP
    obtain ⟨T5, eT5⟩ : ∃ z : St, z = q_su T4 35 0 ((T4 35 0) + 1) := ⟨_, rfl⟩
    rw [← eT5] at hP
    have ht := it_l ht eT5
    refine lv_iload_n hx hb dX9_pass_41 rfl (lv_at hl 0 rfl) ?_
    subst hQ
    obtain rfl := Option.some.inj ht
    exact W.iret (v := z0) hx hb hr (fun t e1 hW => ⟨⟨_, (), rfl, ⟨rfl, trivial⟩, q_at e1 hP⟩, hS.F e1⟩) hS.2.2 dX9_pass_42
  refine lv_aload_n hx hb dX9_pass_0 rfl (lv_at hl 0 rfl) ?_
  refine va_get (D := D) (ci := 9) (v := .int (S0 36 0)) (C := RX9) (T := TX9) (N := 37) hx hb hts hi9 hown hE.1 hP 0 rfl rfl 36 (by decide) hw0 (fun _ h9 => h9) rfl dX9_pass_1 ?_
  refine lv_if_eq (tgt := 11) hx hb dX9_pass_4 (by decide) (fun c1 => ?_) (fun c1 => ?_)
  · have ht := it_p c1 ht
    refine lv_aload_n hx hb dX9_pass_11 rfl (lv_at hl 0 rfl) ?_
    refine va_get (D := D) (ci := 9) (v := .ref (d0 34)) (C := RX9) (T := TX9) (N := 37) hx hb hts hi9 hown hE.1 hP 0 rfl rfl 33 (by decide) hw1 (fun _ h9 => h9) rfl dX9_pass_12 ?_
    refine lv_aload_n hx hb dX9_pass_15 rfl (lv_at hl 0 rfl) ?_
    refine va_get (D := D) (ci := 9) (v := .int (S0 35 0)) (C := RX9) (T := TX9) (N := 37) hx hb hts hi9 hown hE.1 hP 0 rfl rfl 35 (by decide) hw2 (fun _ h9 => h9) rfl dX9_pass_16 ?_
    obtain ⟨g2, ht⟩ := it_g ht
    refine va_iald hx hb hE.1 hP 21 0 rfl rfl (q_in g2) dX9_pass_19 ?_
    exact J20 (S0 33 (S0 35 0).toNatClampNeg) S0 _ _ hP hS ls (lv_sub hl [0] rfl) ht
  · have ht := it_n c1 ht
    refine lv_iload_n hx hb dX9_pass_7 rfl (lv_at hl 1 rfl) ?_
    refine lv_goto (tgt := 20) hx hb dX9_pass_8 (by decide) ?_
    exact J20 p0 S0 _ _ hP hS ls (lv_sub hl [0] rfl) ht
abbrev rmX9_passRow_r0 : Room := { frames := 1, cells := 0, slots := 0, locals := 22 }
set_option maxHeartbeats 4000000 in
set_option maxRecDepth 100000 in
theorem kX9_passRow_r0 (l : Launch) (D : va_G) (cI cZ cO : ClassId) (d0 : Nat → Nat) (sz : Nat) (S0 : St) (p1 : Int32) (tg : St) (ht : xX9_passRow 0 8 p1 S0 = some tg) : Met l yX9_passRow wsX9_passRow rmX9_passRow_r0 (q_PM D cI cZ cO [.ref (d0 0), .ref (d0 1), .int p1] sz (wg9 cI cZ d0 S0)) (va_Qv (fun _ : Unit => True) (fun _ t => va_P D vwCl (wg9 cI cZ d0 tg) t.heap) (va_A (wg9 cI cZ d0 S0) sz)) 0 0 (va_A (wg9 cI cZ d0 S0) sz) := by
  refine Met.ofW (cc := cX9_passRow) (maxL := 4) (ret := none) (by decide) rfl ?_
  intro p e s m args below meth c s₁ B hml hv
  obtain ⟨rfl, hsz, hE, hP, hD0⟩ := hv
  have hx := B.exec
  have hb := B.bytes
  have hr := B.returns
  have hts := atoms_spec (ws := wsX9_passRow) B.pre
  have hown : s.vm.findClass RX9 = some m.cls := findClass_of_methodNamed B.named
  have hlocks := B.notSynchronized
  subst hsz
  have hD1 := hD0.self (sz := s.heap.size)
  generalize hAe : va_A (wg9 cI cZ d0 S0) s.heap.size = A at hD1 ⊢
  have hA : ∀ q : Nat, s.heap.size ≤ q → A q := fun q h => by rw [← hAe]; exact Or.inr h
  have hS : va_S A s.heap s.heap [] := va_S.rf
  have hD : ∀ (S0 : St), va_D A (wg9 cI cZ d0 S0) := fun S0 => q_D hD1 rfl
  have hl := lv_entry ([.ref (d0 0), .ref (d0 1), .int p1]) (n := 4) (Nat.le_of_ble_eq_true rfl)
  rw [lg_entry_eq]
  generalize (lg_sl ([.ref (d0 0), .ref (d0 1), .int p1]) ++ List.replicate (4 - (lg_sl ([.ref (d0 0), .ref (d0 1), .int p1])).length) Slot.unset).toArray = ls at hl ⊢
  have hl : lv_has ls 4 [(0, .ref (d0 0)), (1, .ref (d0 1)), (2, .int p1)] := hl
  have ht := (xX9_passRow_s 0 8 p1 S0).symm.trans ht
  obtain ⟨Q, hQ⟩ : ∃ Q, Q = MQ below (va_Qv (fun _ : Unit => True) (fun _ t => va_P D vwCl (wg9 cI cZ d0 tg) t.heap) A) ([.ref (d0 0), .ref (d0 1), .int p1] : List Value).toArray s 0 0 A := ⟨_, rfl⟩
  rw [← hQ]
  have L2 : ∀ (n : Nat) (x3 : Int32) (S0 : St) (H : Heap) (locs : List Loc) (_ : va_P D vwCl (wg9 cI cZ d0 S0) H) (_ : va_S A s.heap H locs) (ls : Array Slot) (_ : lv_has ls 4 [(0, .ref (d0 0)), (1, .ref (d0 1)), (2, .int p1), (3, .int x3)]) (_ : xX9_passRow_h2 0 8 p1 n x3 S0 = some tg), W p l e (headSpec wsX9_passRow rmX9_passRow_r0).room s m ([.ref (d0 0), .ref (d0 1), .int p1] : List Value).toArray below meth c H locs 0 0 Q (F0 m 2 ls []) := by
    intro n
    induction n with
    | zero =>
      intro x3 S0 H locs hP hS ls hl ht
      exact it_z ht
    | succ n2 ih2 =>
      intro x3 S0 H locs hP hS ls hl ht
      have ht := (xX9_passRow_h2_s 0 8 p1 n2 x3 S0).symm.trans ht
      refine lv_iload_n hx hb dX9_passRow_2 rfl (lv_at hl 3 rfl) ?_
      refine lv_iload_n hx hb dX9_passRow_3 rfl (lv_at hl 2 rfl) ?_
      refine lv_icmp_ge (tgt := 23) hx hb dX9_passRow_4 (by decide) (fun c1 => ?_) (fun c1 => ?_)
      · have ht := it_p c1 ht
        subst hQ
        obtain rfl := Option.some.inj ht
        exact W.vret hx hb hr (fun t e1 hW => ⟨⟨(), rfl, trivial, q_at e1 hP⟩, hS.F e1⟩) hS.2.2 dX9_passRow_23
      · have ht := it_n c1 ht
        refine lv_aload_n hx hb dX9_passRow_7 rfl (lv_at hl 1 rfl) ?_
        refine lv_iload_n hx hb dX9_passRow_8 rfl (lv_at hl 3 rfl) ?_
        refine lv_aload_n hx hb dX9_passRow_9 rfl (lv_at hl 0 rfl) ?_
        refine lv_aload_n hx hb dX9_passRow_10 rfl (lv_at hl 1 rfl) ?_
        refine lv_iload_n hx hb dX9_passRow_11 rfl (lv_at hl 3 rfl) ?_
        obtain ⟨g2, ht⟩ := it_g ht
        refine va_iald hx hb hE.1 hP 1 0 rfl rfl (q_in g2) dX9_passRow_12 ?_
        obtain ⟨q3, hq3, ht⟩ := it_b ht
        have hFc := q_freeW (hD S0) hS hA
        refine q_mi (va_runV (As := [.int (S0 0 x3.toNatClampNeg)]) (rest := [.int x3, .ref (d0 1)]) ⟨hx, hb, hml, hown, hts⟩ (kX9_pass l D cI cZ cO d0 H.size S0 (S0 0 x3.toNatClampNeg) q3 hq3) (cwV 1 hts gX9_passRow_X9_pass rfl rfl rfl (by decide +kernel) ⟨Nat.le_of_ble_eq_true rfl, Nat.le_of_ble_eq_true rfl⟩) (q_mV (As := [.int (S0 0 x3.toNatClampNeg)]) hE hP (hD S0) (q0 := 0) (ci := 9) rfl rfl) rfl rfl hl.1 rfl (lv_room (Nat.le_of_ble_eq_true rfl)) dX9_passRow_13 ⟨Nat.le_of_ble_eq_true rfl, Nat.le_of_ble_eq_true rfl⟩) hS hFc (fun H locs b4 hP1 hk hS => ?_)
        have hP : va_P D vwCl (wg9 cI cZ d0 q3.2) H := hP1
        refine va_iast hx hb hE.1 hP (hD _) hS 1 0 rfl rfl (q_in g2) dX9_passRow_16 (fun H locs hP _ hS => ?_)
        have hP : va_P D vwCl (wg9 cI cZ d0 (q_su q3.2 0 x3.toNatClampNeg q3.1)) H := hP
        obtain ⟨T5, eT5⟩ : ∃ z : St, z = q_su q3.2 0 x3.toNatClampNeg q3.1 := ⟨_, rfl⟩
        rw [← eT5] at hP
        have ht := it_l ht eT5
        refine lv_iinc (v := x3 + 1) (lv' := [(3, .int (x3 + 1)), (0, .ref (d0 0)), (1, .ref (d0 1)), (2, .int p1)]) hx hb dX9_passRow_17 hl (k := 3) rfl rfl (by decide) rfl (fun ls hl => ?_)
        refine lv_goto (tgt := 2) hx hb dX9_passRow_20 (by decide) ?_
        exact ih2 (x3 + 1) T5 _ _ hP hS ls (lv_sub hl [1, 2, 3, 0] rfl) ht
  refine lv_iconst (v := 0) hx hb dX9_passRow_0 (by decide) ?_
  refine lv_istore_n (lv' := [(3, .int 0), (0, .ref (d0 0)), (1, .ref (d0 1)), (2, .int p1)]) hx hb dX9_passRow_1 rfl hl (by decide) rfl (fun ls hl => ?_)
  exact L2 5000 0 S0 _ _ hP hS ls (lv_sub hl [1, 2, 3, 0] rfl) ht
abbrev rmX9_passRow_r1 : Room := { frames := 1, cells := 0, slots := 0, locals := 22 }
set_option maxHeartbeats 4000000 in
set_option maxRecDepth 100000 in
theorem kX9_passRow_r1 (l : Launch) (D : va_G) (cI cZ cO : ClassId) (d0 : Nat → Nat) (sz : Nat) (S0 : St) (p1 : Int32) (tg : St) (ht : xX9_passRow 1 8 p1 S0 = some tg) : Met l yX9_passRow wsX9_passRow rmX9_passRow_r1 (q_PM D cI cZ cO [.ref (d0 0), .ref (d0 2), .int p1] sz (wg9 cI cZ d0 S0)) (va_Qv (fun _ : Unit => True) (fun _ t => va_P D vwCl (wg9 cI cZ d0 tg) t.heap) (va_A (wg9 cI cZ d0 S0) sz)) 0 0 (va_A (wg9 cI cZ d0 S0) sz) := by
  refine Met.ofW (cc := cX9_passRow) (maxL := 4) (ret := none) (by decide) rfl ?_
  intro p e s m args below meth c s₁ B hml hv
  obtain ⟨rfl, hsz, hE, hP, hD0⟩ := hv
  have hx := B.exec
  have hb := B.bytes
  have hr := B.returns
  have hts := atoms_spec (ws := wsX9_passRow) B.pre
  have hown : s.vm.findClass RX9 = some m.cls := findClass_of_methodNamed B.named
  have hlocks := B.notSynchronized
  subst hsz
  have hD1 := hD0.self (sz := s.heap.size)
  generalize hAe : va_A (wg9 cI cZ d0 S0) s.heap.size = A at hD1 ⊢
  have hA : ∀ q : Nat, s.heap.size ≤ q → A q := fun q h => by rw [← hAe]; exact Or.inr h
  have hS : va_S A s.heap s.heap [] := va_S.rf
  have hD : ∀ (S0 : St), va_D A (wg9 cI cZ d0 S0) := fun S0 => q_D hD1 rfl
  have hl := lv_entry ([.ref (d0 0), .ref (d0 2), .int p1]) (n := 4) (Nat.le_of_ble_eq_true rfl)
  rw [lg_entry_eq]
  generalize (lg_sl ([.ref (d0 0), .ref (d0 2), .int p1]) ++ List.replicate (4 - (lg_sl ([.ref (d0 0), .ref (d0 2), .int p1])).length) Slot.unset).toArray = ls at hl ⊢
  have hl : lv_has ls 4 [(0, .ref (d0 0)), (1, .ref (d0 2)), (2, .int p1)] := hl
  have ht := (xX9_passRow_s 1 8 p1 S0).symm.trans ht
  obtain ⟨Q, hQ⟩ : ∃ Q, Q = MQ below (va_Qv (fun _ : Unit => True) (fun _ t => va_P D vwCl (wg9 cI cZ d0 tg) t.heap) A) ([.ref (d0 0), .ref (d0 2), .int p1] : List Value).toArray s 0 0 A := ⟨_, rfl⟩
  rw [← hQ]
  have L2 : ∀ (n : Nat) (x3 : Int32) (S0 : St) (H : Heap) (locs : List Loc) (_ : va_P D vwCl (wg9 cI cZ d0 S0) H) (_ : va_S A s.heap H locs) (ls : Array Slot) (_ : lv_has ls 4 [(0, .ref (d0 0)), (1, .ref (d0 2)), (2, .int p1), (3, .int x3)]) (_ : xX9_passRow_h2 1 8 p1 n x3 S0 = some tg), W p l e (headSpec wsX9_passRow rmX9_passRow_r1).room s m ([.ref (d0 0), .ref (d0 2), .int p1] : List Value).toArray below meth c H locs 0 0 Q (F0 m 2 ls []) := by
    intro n
    induction n with
    | zero =>
      intro x3 S0 H locs hP hS ls hl ht
      exact it_z ht
    | succ n2 ih2 =>
      intro x3 S0 H locs hP hS ls hl ht
      have ht := (xX9_passRow_h2_s 1 8 p1 n2 x3 S0).symm.trans ht
      refine lv_iload_n hx hb dX9_passRow_2 rfl (lv_at hl 3 rfl) ?_
      refine lv_iload_n hx hb dX9_passRow_3 rfl (lv_at hl 2 rfl) ?_
      refine lv_icmp_ge (tgt := 23) hx hb dX9_passRow_4 (by decide) (fun c1 => ?_) (fun c1 => ?_)
      · have ht := it_p c1 ht
        subst hQ
        obtain rfl := Option.some.inj ht
        exact W.vret hx hb hr (fun t e1 hW => ⟨⟨(), rfl, trivial, q_at e1 hP⟩, hS.F e1⟩) hS.2.2 dX9_passRow_23
      · have ht := it_n c1 ht
        refine lv_aload_n hx hb dX9_passRow_7 rfl (lv_at hl 1 rfl) ?_
        refine lv_iload_n hx hb dX9_passRow_8 rfl (lv_at hl 3 rfl) ?_
        refine lv_aload_n hx hb dX9_passRow_9 rfl (lv_at hl 0 rfl) ?_
        refine lv_aload_n hx hb dX9_passRow_10 rfl (lv_at hl 1 rfl) ?_
        refine lv_iload_n hx hb dX9_passRow_11 rfl (lv_at hl 3 rfl) ?_
        obtain ⟨g2, ht⟩ := it_g ht
        refine va_iald hx hb hE.1 hP 2 0 rfl rfl (q_in g2) dX9_passRow_12 ?_
        obtain ⟨q3, hq3, ht⟩ := it_b ht
        have hFc := q_freeW (hD S0) hS hA
        refine q_mi (va_runV (As := [.int (S0 1 x3.toNatClampNeg)]) (rest := [.int x3, .ref (d0 2)]) ⟨hx, hb, hml, hown, hts⟩ (kX9_pass l D cI cZ cO d0 H.size S0 (S0 1 x3.toNatClampNeg) q3 hq3) (cwV 1 hts gX9_passRow_X9_pass rfl rfl rfl (by decide +kernel) ⟨Nat.le_of_ble_eq_true rfl, Nat.le_of_ble_eq_true rfl⟩) (q_mV (As := [.int (S0 1 x3.toNatClampNeg)]) hE hP (hD S0) (q0 := 0) (ci := 9) rfl rfl) rfl rfl hl.1 rfl (lv_room (Nat.le_of_ble_eq_true rfl)) dX9_passRow_13 ⟨Nat.le_of_ble_eq_true rfl, Nat.le_of_ble_eq_true rfl⟩) hS hFc (fun H locs b4 hP1 hk hS => ?_)
        have hP : va_P D vwCl (wg9 cI cZ d0 q3.2) H := hP1
        refine va_iast hx hb hE.1 hP (hD _) hS 2 0 rfl rfl (q_in g2) dX9_passRow_16 (fun H locs hP _ hS => ?_)
        have hP : va_P D vwCl (wg9 cI cZ d0 (q_su q3.2 1 x3.toNatClampNeg q3.1)) H := hP
        obtain ⟨T5, eT5⟩ : ∃ z : St, z = q_su q3.2 1 x3.toNatClampNeg q3.1 := ⟨_, rfl⟩
        rw [← eT5] at hP
        have ht := it_l ht eT5
        refine lv_iinc (v := x3 + 1) (lv' := [(3, .int (x3 + 1)), (0, .ref (d0 0)), (1, .ref (d0 2)), (2, .int p1)]) hx hb dX9_passRow_17 hl (k := 3) rfl rfl (by decide) rfl (fun ls hl => ?_)
        refine lv_goto (tgt := 2) hx hb dX9_passRow_20 (by decide) ?_
        exact ih2 (x3 + 1) T5 _ _ hP hS ls (lv_sub hl [1, 2, 3, 0] rfl) ht
  refine lv_iconst (v := 0) hx hb dX9_passRow_0 (by decide) ?_
  refine lv_istore_n (lv' := [(3, .int 0), (0, .ref (d0 0)), (1, .ref (d0 2)), (2, .int p1)]) hx hb dX9_passRow_1 rfl hl (by decide) rfl (fun ls hl => ?_)
  exact L2 5000 0 S0 _ _ hP hS ls (lv_sub hl [1, 2, 3, 0] rfl) ht
abbrev rmX9_passRow_r2 : Room := { frames := 1, cells := 0, slots := 0, locals := 22 }
set_option maxHeartbeats 4000000 in
set_option maxRecDepth 100000 in
theorem kX9_passRow_r2 (l : Launch) (D : va_G) (cI cZ cO : ClassId) (d0 : Nat → Nat) (sz : Nat) (S0 : St) (p1 : Int32) (tg : St) (ht : xX9_passRow 2 8 p1 S0 = some tg) : Met l yX9_passRow wsX9_passRow rmX9_passRow_r2 (q_PM D cI cZ cO [.ref (d0 0), .ref (d0 3), .int p1] sz (wg9 cI cZ d0 S0)) (va_Qv (fun _ : Unit => True) (fun _ t => va_P D vwCl (wg9 cI cZ d0 tg) t.heap) (va_A (wg9 cI cZ d0 S0) sz)) 0 0 (va_A (wg9 cI cZ d0 S0) sz) := by
  refine Met.ofW (cc := cX9_passRow) (maxL := 4) (ret := none) (by decide) rfl ?_
  intro p e s m args below meth c s₁ B hml hv
  obtain ⟨rfl, hsz, hE, hP, hD0⟩ := hv
  have hx := B.exec
  have hb := B.bytes
  have hr := B.returns
  have hts := atoms_spec (ws := wsX9_passRow) B.pre
  have hown : s.vm.findClass RX9 = some m.cls := findClass_of_methodNamed B.named
  have hlocks := B.notSynchronized
  subst hsz
  have hD1 := hD0.self (sz := s.heap.size)
  generalize hAe : va_A (wg9 cI cZ d0 S0) s.heap.size = A at hD1 ⊢
  have hA : ∀ q : Nat, s.heap.size ≤ q → A q := fun q h => by rw [← hAe]; exact Or.inr h
  have hS : va_S A s.heap s.heap [] := va_S.rf
  have hD : ∀ (S0 : St), va_D A (wg9 cI cZ d0 S0) := fun S0 => q_D hD1 rfl
  have hl := lv_entry ([.ref (d0 0), .ref (d0 3), .int p1]) (n := 4) (Nat.le_of_ble_eq_true rfl)
  rw [lg_entry_eq]
  generalize (lg_sl ([.ref (d0 0), .ref (d0 3), .int p1]) ++ List.replicate (4 - (lg_sl ([.ref (d0 0), .ref (d0 3), .int p1])).length) Slot.unset).toArray = ls at hl ⊢
  have hl : lv_has ls 4 [(0, .ref (d0 0)), (1, .ref (d0 3)), (2, .int p1)] := hl
  have ht := (xX9_passRow_s 2 8 p1 S0).symm.trans ht
  obtain ⟨Q, hQ⟩ : ∃ Q, Q = MQ below (va_Qv (fun _ : Unit => True) (fun _ t => va_P D vwCl (wg9 cI cZ d0 tg) t.heap) A) ([.ref (d0 0), .ref (d0 3), .int p1] : List Value).toArray s 0 0 A := ⟨_, rfl⟩
  rw [← hQ]
  have L2 : ∀ (n : Nat) (x3 : Int32) (S0 : St) (H : Heap) (locs : List Loc) (_ : va_P D vwCl (wg9 cI cZ d0 S0) H) (_ : va_S A s.heap H locs) (ls : Array Slot) (_ : lv_has ls 4 [(0, .ref (d0 0)), (1, .ref (d0 3)), (2, .int p1), (3, .int x3)]) (_ : xX9_passRow_h2 2 8 p1 n x3 S0 = some tg), W p l e (headSpec wsX9_passRow rmX9_passRow_r2).room s m ([.ref (d0 0), .ref (d0 3), .int p1] : List Value).toArray below meth c H locs 0 0 Q (F0 m 2 ls []) := by
    intro n
    induction n with
    | zero =>
      intro x3 S0 H locs hP hS ls hl ht
      exact it_z ht
    | succ n2 ih2 =>
      intro x3 S0 H locs hP hS ls hl ht
      have ht := (xX9_passRow_h2_s 2 8 p1 n2 x3 S0).symm.trans ht
      refine lv_iload_n hx hb dX9_passRow_2 rfl (lv_at hl 3 rfl) ?_
      refine lv_iload_n hx hb dX9_passRow_3 rfl (lv_at hl 2 rfl) ?_
      refine lv_icmp_ge (tgt := 23) hx hb dX9_passRow_4 (by decide) (fun c1 => ?_) (fun c1 => ?_)
      · have ht := it_p c1 ht
        subst hQ
        obtain rfl := Option.some.inj ht
        exact W.vret hx hb hr (fun t e1 hW => ⟨⟨(), rfl, trivial, q_at e1 hP⟩, hS.F e1⟩) hS.2.2 dX9_passRow_23
      · have ht := it_n c1 ht
        refine lv_aload_n hx hb dX9_passRow_7 rfl (lv_at hl 1 rfl) ?_
        refine lv_iload_n hx hb dX9_passRow_8 rfl (lv_at hl 3 rfl) ?_
        refine lv_aload_n hx hb dX9_passRow_9 rfl (lv_at hl 0 rfl) ?_
        refine lv_aload_n hx hb dX9_passRow_10 rfl (lv_at hl 1 rfl) ?_
        refine lv_iload_n hx hb dX9_passRow_11 rfl (lv_at hl 3 rfl) ?_
        obtain ⟨g2, ht⟩ := it_g ht
        refine va_iald hx hb hE.1 hP 3 0 rfl rfl (q_in g2) dX9_passRow_12 ?_
        obtain ⟨q3, hq3, ht⟩ := it_b ht
        have hFc := q_freeW (hD S0) hS hA
        refine q_mi (va_runV (As := [.int (S0 2 x3.toNatClampNeg)]) (rest := [.int x3, .ref (d0 3)]) ⟨hx, hb, hml, hown, hts⟩ (kX9_pass l D cI cZ cO d0 H.size S0 (S0 2 x3.toNatClampNeg) q3 hq3) (cwV 1 hts gX9_passRow_X9_pass rfl rfl rfl (by decide +kernel) ⟨Nat.le_of_ble_eq_true rfl, Nat.le_of_ble_eq_true rfl⟩) (q_mV (As := [.int (S0 2 x3.toNatClampNeg)]) hE hP (hD S0) (q0 := 0) (ci := 9) rfl rfl) rfl rfl hl.1 rfl (lv_room (Nat.le_of_ble_eq_true rfl)) dX9_passRow_13 ⟨Nat.le_of_ble_eq_true rfl, Nat.le_of_ble_eq_true rfl⟩) hS hFc (fun H locs b4 hP1 hk hS => ?_)
        have hP : va_P D vwCl (wg9 cI cZ d0 q3.2) H := hP1
        refine va_iast hx hb hE.1 hP (hD _) hS 3 0 rfl rfl (q_in g2) dX9_passRow_16 (fun H locs hP _ hS => ?_)
        have hP : va_P D vwCl (wg9 cI cZ d0 (q_su q3.2 2 x3.toNatClampNeg q3.1)) H := hP
        obtain ⟨T5, eT5⟩ : ∃ z : St, z = q_su q3.2 2 x3.toNatClampNeg q3.1 := ⟨_, rfl⟩
        rw [← eT5] at hP
        have ht := it_l ht eT5
        refine lv_iinc (v := x3 + 1) (lv' := [(3, .int (x3 + 1)), (0, .ref (d0 0)), (1, .ref (d0 3)), (2, .int p1)]) hx hb dX9_passRow_17 hl (k := 3) rfl rfl (by decide) rfl (fun ls hl => ?_)
        refine lv_goto (tgt := 2) hx hb dX9_passRow_20 (by decide) ?_
        exact ih2 (x3 + 1) T5 _ _ hP hS ls (lv_sub hl [1, 2, 3, 0] rfl) ht
  refine lv_iconst (v := 0) hx hb dX9_passRow_0 (by decide) ?_
  refine lv_istore_n (lv' := [(3, .int 0), (0, .ref (d0 0)), (1, .ref (d0 3)), (2, .int p1)]) hx hb dX9_passRow_1 rfl hl (by decide) rfl (fun ls hl => ?_)
  exact L2 5000 0 S0 _ _ hP hS ls (lv_sub hl [1, 2, 3, 0] rfl) ht
abbrev rmX9_passRow_r3 : Room := { frames := 1, cells := 0, slots := 0, locals := 22 }
set_option maxHeartbeats 4000000 in
set_option maxRecDepth 100000 in
theorem kX9_passRow_r3 (l : Launch) (D : va_G) (cI cZ cO : ClassId) (d0 : Nat → Nat) (sz : Nat) (S0 : St) (p1 : Int32) (tg : St) (ht : xX9_passRow 3 8 p1 S0 = some tg) : Met l yX9_passRow wsX9_passRow rmX9_passRow_r3 (q_PM D cI cZ cO [.ref (d0 0), .ref (d0 4), .int p1] sz (wg9 cI cZ d0 S0)) (va_Qv (fun _ : Unit => True) (fun _ t => va_P D vwCl (wg9 cI cZ d0 tg) t.heap) (va_A (wg9 cI cZ d0 S0) sz)) 0 0 (va_A (wg9 cI cZ d0 S0) sz) := by
  refine Met.ofW (cc := cX9_passRow) (maxL := 4) (ret := none) (by decide) rfl ?_
  intro p e s m args below meth c s₁ B hml hv
  obtain ⟨rfl, hsz, hE, hP, hD0⟩ := hv
  have hx := B.exec
  have hb := B.bytes
  have hr := B.returns
  have hts := atoms_spec (ws := wsX9_passRow) B.pre
  have hown : s.vm.findClass RX9 = some m.cls := findClass_of_methodNamed B.named
  have hlocks := B.notSynchronized
  subst hsz
  have hD1 := hD0.self (sz := s.heap.size)
  generalize hAe : va_A (wg9 cI cZ d0 S0) s.heap.size = A at hD1 ⊢
  have hA : ∀ q : Nat, s.heap.size ≤ q → A q := fun q h => by rw [← hAe]; exact Or.inr h
  have hS : va_S A s.heap s.heap [] := va_S.rf
  have hD : ∀ (S0 : St), va_D A (wg9 cI cZ d0 S0) := fun S0 => q_D hD1 rfl
  have hl := lv_entry ([.ref (d0 0), .ref (d0 4), .int p1]) (n := 4) (Nat.le_of_ble_eq_true rfl)
  rw [lg_entry_eq]
  generalize (lg_sl ([.ref (d0 0), .ref (d0 4), .int p1]) ++ List.replicate (4 - (lg_sl ([.ref (d0 0), .ref (d0 4), .int p1])).length) Slot.unset).toArray = ls at hl ⊢
  have hl : lv_has ls 4 [(0, .ref (d0 0)), (1, .ref (d0 4)), (2, .int p1)] := hl
  have ht := (xX9_passRow_s 3 8 p1 S0).symm.trans ht
  obtain ⟨Q, hQ⟩ : ∃ Q, Q = MQ below (va_Qv (fun _ : Unit => True) (fun _ t => va_P D vwCl (wg9 cI cZ d0 tg) t.heap) A) ([.ref (d0 0), .ref (d0 4), .int p1] : List Value).toArray s 0 0 A := ⟨_, rfl⟩
  rw [← hQ]
  have L2 : ∀ (n : Nat) (x3 : Int32) (S0 : St) (H : Heap) (locs : List Loc) (_ : va_P D vwCl (wg9 cI cZ d0 S0) H) (_ : va_S A s.heap H locs) (ls : Array Slot) (_ : lv_has ls 4 [(0, .ref (d0 0)), (1, .ref (d0 4)), (2, .int p1), (3, .int x3)]) (_ : xX9_passRow_h2 3 8 p1 n x3 S0 = some tg), W p l e (headSpec wsX9_passRow rmX9_passRow_r3).room s m ([.ref (d0 0), .ref (d0 4), .int p1] : List Value).toArray below meth c H locs 0 0 Q (F0 m 2 ls []) := by
    intro n
    induction n with
    | zero =>
      intro x3 S0 H locs hP hS ls hl ht
      exact it_z ht
    | succ n2 ih2 =>
      intro x3 S0 H locs hP hS ls hl ht
      have ht := (xX9_passRow_h2_s 3 8 p1 n2 x3 S0).symm.trans ht
      refine lv_iload_n hx hb dX9_passRow_2 rfl (lv_at hl 3 rfl) ?_
      refine lv_iload_n hx hb dX9_passRow_3 rfl (lv_at hl 2 rfl) ?_
      refine lv_icmp_ge (tgt := 23) hx hb dX9_passRow_4 (by decide) (fun c1 => ?_) (fun c1 => ?_)
      · have ht := it_p c1 ht
        subst hQ
        obtain rfl := Option.some.inj ht
        exact W.vret hx hb hr (fun t e1 hW => ⟨⟨(), rfl, trivial, q_at e1 hP⟩, hS.F e1⟩) hS.2.2 dX9_passRow_23
      · have ht := it_n c1 ht
        refine lv_aload_n hx hb dX9_passRow_7 rfl (lv_at hl 1 rfl) ?_
        refine lv_iload_n hx hb dX9_passRow_8 rfl (lv_at hl 3 rfl) ?_
        refine lv_aload_n hx hb dX9_passRow_9 rfl (lv_at hl 0 rfl) ?_
        refine lv_aload_n hx hb dX9_passRow_10 rfl (lv_at hl 1 rfl) ?_
        refine lv_iload_n hx hb dX9_passRow_11 rfl (lv_at hl 3 rfl) ?_
        obtain ⟨g2, ht⟩ := it_g ht
        refine va_iald hx hb hE.1 hP 4 0 rfl rfl (q_in g2) dX9_passRow_12 ?_
        obtain ⟨q3, hq3, ht⟩ := it_b ht
        have hFc := q_freeW (hD S0) hS hA
        refine q_mi (va_runV (As := [.int (S0 3 x3.toNatClampNeg)]) (rest := [.int x3, .ref (d0 4)]) ⟨hx, hb, hml, hown, hts⟩ (kX9_pass l D cI cZ cO d0 H.size S0 (S0 3 x3.toNatClampNeg) q3 hq3) (cwV 1 hts gX9_passRow_X9_pass rfl rfl rfl (by decide +kernel) ⟨Nat.le_of_ble_eq_true rfl, Nat.le_of_ble_eq_true rfl⟩) (q_mV (As := [.int (S0 3 x3.toNatClampNeg)]) hE hP (hD S0) (q0 := 0) (ci := 9) rfl rfl) rfl rfl hl.1 rfl (lv_room (Nat.le_of_ble_eq_true rfl)) dX9_passRow_13 ⟨Nat.le_of_ble_eq_true rfl, Nat.le_of_ble_eq_true rfl⟩) hS hFc (fun H locs b4 hP1 hk hS => ?_)
        have hP : va_P D vwCl (wg9 cI cZ d0 q3.2) H := hP1
        refine va_iast hx hb hE.1 hP (hD _) hS 4 0 rfl rfl (q_in g2) dX9_passRow_16 (fun H locs hP _ hS => ?_)
        have hP : va_P D vwCl (wg9 cI cZ d0 (q_su q3.2 3 x3.toNatClampNeg q3.1)) H := hP
        obtain ⟨T5, eT5⟩ : ∃ z : St, z = q_su q3.2 3 x3.toNatClampNeg q3.1 := ⟨_, rfl⟩
        rw [← eT5] at hP
        have ht := it_l ht eT5
        refine lv_iinc (v := x3 + 1) (lv' := [(3, .int (x3 + 1)), (0, .ref (d0 0)), (1, .ref (d0 4)), (2, .int p1)]) hx hb dX9_passRow_17 hl (k := 3) rfl rfl (by decide) rfl (fun ls hl => ?_)
        refine lv_goto (tgt := 2) hx hb dX9_passRow_20 (by decide) ?_
        exact ih2 (x3 + 1) T5 _ _ hP hS ls (lv_sub hl [1, 2, 3, 0] rfl) ht
  refine lv_iconst (v := 0) hx hb dX9_passRow_0 (by decide) ?_
  refine lv_istore_n (lv' := [(3, .int 0), (0, .ref (d0 0)), (1, .ref (d0 4)), (2, .int p1)]) hx hb dX9_passRow_1 rfl hl (by decide) rfl (fun ls hl => ?_)
  exact L2 5000 0 S0 _ _ hP hS ls (lv_sub hl [1, 2, 3, 0] rfl) ht
abbrev rmX9_passRow_r4 : Room := { frames := 1, cells := 0, slots := 0, locals := 22 }
set_option maxHeartbeats 4000000 in
set_option maxRecDepth 100000 in
theorem kX9_passRow_r4 (l : Launch) (D : va_G) (cI cZ cO : ClassId) (d0 : Nat → Nat) (sz : Nat) (S0 : St) (p1 : Int32) (tg : St) (ht : xX9_passRow 4 8 p1 S0 = some tg) : Met l yX9_passRow wsX9_passRow rmX9_passRow_r4 (q_PM D cI cZ cO [.ref (d0 0), .ref (d0 5), .int p1] sz (wg9 cI cZ d0 S0)) (va_Qv (fun _ : Unit => True) (fun _ t => va_P D vwCl (wg9 cI cZ d0 tg) t.heap) (va_A (wg9 cI cZ d0 S0) sz)) 0 0 (va_A (wg9 cI cZ d0 S0) sz) := by
  refine Met.ofW (cc := cX9_passRow) (maxL := 4) (ret := none) (by decide) rfl ?_
  intro p e s m args below meth c s₁ B hml hv
  obtain ⟨rfl, hsz, hE, hP, hD0⟩ := hv
  have hx := B.exec
  have hb := B.bytes
  have hr := B.returns
  have hts := atoms_spec (ws := wsX9_passRow) B.pre
  have hown : s.vm.findClass RX9 = some m.cls := findClass_of_methodNamed B.named
  have hlocks := B.notSynchronized
  subst hsz
  have hD1 := hD0.self (sz := s.heap.size)
  generalize hAe : va_A (wg9 cI cZ d0 S0) s.heap.size = A at hD1 ⊢
  have hA : ∀ q : Nat, s.heap.size ≤ q → A q := fun q h => by rw [← hAe]; exact Or.inr h
  have hS : va_S A s.heap s.heap [] := va_S.rf
  have hD : ∀ (S0 : St), va_D A (wg9 cI cZ d0 S0) := fun S0 => q_D hD1 rfl
  have hl := lv_entry ([.ref (d0 0), .ref (d0 5), .int p1]) (n := 4) (Nat.le_of_ble_eq_true rfl)
  rw [lg_entry_eq]
  generalize (lg_sl ([.ref (d0 0), .ref (d0 5), .int p1]) ++ List.replicate (4 - (lg_sl ([.ref (d0 0), .ref (d0 5), .int p1])).length) Slot.unset).toArray = ls at hl ⊢
  have hl : lv_has ls 4 [(0, .ref (d0 0)), (1, .ref (d0 5)), (2, .int p1)] := hl
  have ht := (xX9_passRow_s 4 8 p1 S0).symm.trans ht
  obtain ⟨Q, hQ⟩ : ∃ Q, Q = MQ below (va_Qv (fun _ : Unit => True) (fun _ t => va_P D vwCl (wg9 cI cZ d0 tg) t.heap) A) ([.ref (d0 0), .ref (d0 5), .int p1] : List Value).toArray s 0 0 A := ⟨_, rfl⟩
  rw [← hQ]
  have L2 : ∀ (n : Nat) (x3 : Int32) (S0 : St) (H : Heap) (locs : List Loc) (_ : va_P D vwCl (wg9 cI cZ d0 S0) H) (_ : va_S A s.heap H locs) (ls : Array Slot) (_ : lv_has ls 4 [(0, .ref (d0 0)), (1, .ref (d0 5)), (2, .int p1), (3, .int x3)]) (_ : xX9_passRow_h2 4 8 p1 n x3 S0 = some tg), W p l e (headSpec wsX9_passRow rmX9_passRow_r4).room s m ([.ref (d0 0), .ref (d0 5), .int p1] : List Value).toArray below meth c H locs 0 0 Q (F0 m 2 ls []) := by
    intro n
    induction n with
    | zero =>
      intro x3 S0 H locs hP hS ls hl ht
      exact it_z ht
    | succ n2 ih2 =>
      intro x3 S0 H locs hP hS ls hl ht
      have ht := (xX9_passRow_h2_s 4 8 p1 n2 x3 S0).symm.trans ht
      refine lv_iload_n hx hb dX9_passRow_2 rfl (lv_at hl 3 rfl) ?_
      refine lv_iload_n hx hb dX9_passRow_3 rfl (lv_at hl 2 rfl) ?_
      refine lv_icmp_ge (tgt := 23) hx hb dX9_passRow_4 (by decide) (fun c1 => ?_) (fun c1 => ?_)
      · have ht := it_p c1 ht
        subst hQ
        obtain rfl := Option.some.inj ht
        exact W.vret hx hb hr (fun t e1 hW => ⟨⟨(), rfl, trivial, q_at e1 hP⟩, hS.F e1⟩) hS.2.2 dX9_passRow_23
      · have ht := it_n c1 ht
        refine lv_aload_n hx hb dX9_passRow_7 rfl (lv_at hl 1 rfl) ?_
        refine lv_iload_n hx hb dX9_passRow_8 rfl (lv_at hl 3 rfl) ?_
        refine lv_aload_n hx hb dX9_passRow_9 rfl (lv_at hl 0 rfl) ?_
        refine lv_aload_n hx hb dX9_passRow_10 rfl (lv_at hl 1 rfl) ?_
        refine lv_iload_n hx hb dX9_passRow_11 rfl (lv_at hl 3 rfl) ?_
        obtain ⟨g2, ht⟩ := it_g ht
        refine va_iald hx hb hE.1 hP 5 0 rfl rfl (q_in g2) dX9_passRow_12 ?_
        obtain ⟨q3, hq3, ht⟩ := it_b ht
        have hFc := q_freeW (hD S0) hS hA
        refine q_mi (va_runV (As := [.int (S0 4 x3.toNatClampNeg)]) (rest := [.int x3, .ref (d0 5)]) ⟨hx, hb, hml, hown, hts⟩ (kX9_pass l D cI cZ cO d0 H.size S0 (S0 4 x3.toNatClampNeg) q3 hq3) (cwV 1 hts gX9_passRow_X9_pass rfl rfl rfl (by decide +kernel) ⟨Nat.le_of_ble_eq_true rfl, Nat.le_of_ble_eq_true rfl⟩) (q_mV (As := [.int (S0 4 x3.toNatClampNeg)]) hE hP (hD S0) (q0 := 0) (ci := 9) rfl rfl) rfl rfl hl.1 rfl (lv_room (Nat.le_of_ble_eq_true rfl)) dX9_passRow_13 ⟨Nat.le_of_ble_eq_true rfl, Nat.le_of_ble_eq_true rfl⟩) hS hFc (fun H locs b4 hP1 hk hS => ?_)
        have hP : va_P D vwCl (wg9 cI cZ d0 q3.2) H := hP1
        refine va_iast hx hb hE.1 hP (hD _) hS 5 0 rfl rfl (q_in g2) dX9_passRow_16 (fun H locs hP _ hS => ?_)
        have hP : va_P D vwCl (wg9 cI cZ d0 (q_su q3.2 4 x3.toNatClampNeg q3.1)) H := hP
        obtain ⟨T5, eT5⟩ : ∃ z : St, z = q_su q3.2 4 x3.toNatClampNeg q3.1 := ⟨_, rfl⟩
        rw [← eT5] at hP
        have ht := it_l ht eT5
        refine lv_iinc (v := x3 + 1) (lv' := [(3, .int (x3 + 1)), (0, .ref (d0 0)), (1, .ref (d0 5)), (2, .int p1)]) hx hb dX9_passRow_17 hl (k := 3) rfl rfl (by decide) rfl (fun ls hl => ?_)
        refine lv_goto (tgt := 2) hx hb dX9_passRow_20 (by decide) ?_
        exact ih2 (x3 + 1) T5 _ _ hP hS ls (lv_sub hl [1, 2, 3, 0] rfl) ht
  refine lv_iconst (v := 0) hx hb dX9_passRow_0 (by decide) ?_
  refine lv_istore_n (lv' := [(3, .int 0), (0, .ref (d0 0)), (1, .ref (d0 5)), (2, .int p1)]) hx hb dX9_passRow_1 rfl hl (by decide) rfl (fun ls hl => ?_)
  exact L2 5000 0 S0 _ _ hP hS ls (lv_sub hl [1, 2, 3, 0] rfl) ht
abbrev rmX9_passRow_r5 : Room := { frames := 1, cells := 0, slots := 0, locals := 22 }
set_option maxHeartbeats 4000000 in
set_option maxRecDepth 100000 in
theorem kX9_passRow_r5 (l : Launch) (D : va_G) (cI cZ cO : ClassId) (d0 : Nat → Nat) (sz : Nat) (S0 : St) (p1 : Int32) (tg : St) (ht : xX9_passRow 5 4 p1 S0 = some tg) : Met l yX9_passRow wsX9_passRow rmX9_passRow_r5 (q_PM D cI cZ cO [.ref (d0 0), .ref (d0 6), .int p1] sz (wg9 cI cZ d0 S0)) (va_Qv (fun _ : Unit => True) (fun _ t => va_P D vwCl (wg9 cI cZ d0 tg) t.heap) (va_A (wg9 cI cZ d0 S0) sz)) 0 0 (va_A (wg9 cI cZ d0 S0) sz) := by
  refine Met.ofW (cc := cX9_passRow) (maxL := 4) (ret := none) (by decide) rfl ?_
  intro p e s m args below meth c s₁ B hml hv
  obtain ⟨rfl, hsz, hE, hP, hD0⟩ := hv
  have hx := B.exec
  have hb := B.bytes
  have hr := B.returns
  have hts := atoms_spec (ws := wsX9_passRow) B.pre
  have hown : s.vm.findClass RX9 = some m.cls := findClass_of_methodNamed B.named
  have hlocks := B.notSynchronized
  subst hsz
  have hD1 := hD0.self (sz := s.heap.size)
  generalize hAe : va_A (wg9 cI cZ d0 S0) s.heap.size = A at hD1 ⊢
  have hA : ∀ q : Nat, s.heap.size ≤ q → A q := fun q h => by rw [← hAe]; exact Or.inr h
  have hS : va_S A s.heap s.heap [] := va_S.rf
  have hD : ∀ (S0 : St), va_D A (wg9 cI cZ d0 S0) := fun S0 => q_D hD1 rfl
  have hl := lv_entry ([.ref (d0 0), .ref (d0 6), .int p1]) (n := 4) (Nat.le_of_ble_eq_true rfl)
  rw [lg_entry_eq]
  generalize (lg_sl ([.ref (d0 0), .ref (d0 6), .int p1]) ++ List.replicate (4 - (lg_sl ([.ref (d0 0), .ref (d0 6), .int p1])).length) Slot.unset).toArray = ls at hl ⊢
  have hl : lv_has ls 4 [(0, .ref (d0 0)), (1, .ref (d0 6)), (2, .int p1)] := hl
  have ht := (xX9_passRow_s 5 4 p1 S0).symm.trans ht
  obtain ⟨Q, hQ⟩ : ∃ Q, Q = MQ below (va_Qv (fun _ : Unit => True) (fun _ t => va_P D vwCl (wg9 cI cZ d0 tg) t.heap) A) ([.ref (d0 0), .ref (d0 6), .int p1] : List Value).toArray s 0 0 A := ⟨_, rfl⟩
  rw [← hQ]
  have L2 : ∀ (n : Nat) (x3 : Int32) (S0 : St) (H : Heap) (locs : List Loc) (_ : va_P D vwCl (wg9 cI cZ d0 S0) H) (_ : va_S A s.heap H locs) (ls : Array Slot) (_ : lv_has ls 4 [(0, .ref (d0 0)), (1, .ref (d0 6)), (2, .int p1), (3, .int x3)]) (_ : xX9_passRow_h2 5 4 p1 n x3 S0 = some tg), W p l e (headSpec wsX9_passRow rmX9_passRow_r5).room s m ([.ref (d0 0), .ref (d0 6), .int p1] : List Value).toArray below meth c H locs 0 0 Q (F0 m 2 ls []) := by
    intro n
    induction n with
    | zero =>
      intro x3 S0 H locs hP hS ls hl ht
      exact it_z ht
    | succ n2 ih2 =>
      intro x3 S0 H locs hP hS ls hl ht
      have ht := (xX9_passRow_h2_s 5 4 p1 n2 x3 S0).symm.trans ht
      refine lv_iload_n hx hb dX9_passRow_2 rfl (lv_at hl 3 rfl) ?_
      refine lv_iload_n hx hb dX9_passRow_3 rfl (lv_at hl 2 rfl) ?_
      refine lv_icmp_ge (tgt := 23) hx hb dX9_passRow_4 (by decide) (fun c1 => ?_) (fun c1 => ?_)
      · have ht := it_p c1 ht
        subst hQ
        obtain rfl := Option.some.inj ht
        exact W.vret hx hb hr (fun t e1 hW => ⟨⟨(), rfl, trivial, q_at e1 hP⟩, hS.F e1⟩) hS.2.2 dX9_passRow_23
      · have ht := it_n c1 ht
        refine lv_aload_n hx hb dX9_passRow_7 rfl (lv_at hl 1 rfl) ?_
        refine lv_iload_n hx hb dX9_passRow_8 rfl (lv_at hl 3 rfl) ?_
        refine lv_aload_n hx hb dX9_passRow_9 rfl (lv_at hl 0 rfl) ?_
        refine lv_aload_n hx hb dX9_passRow_10 rfl (lv_at hl 1 rfl) ?_
        refine lv_iload_n hx hb dX9_passRow_11 rfl (lv_at hl 3 rfl) ?_
        obtain ⟨g2, ht⟩ := it_g ht
        refine va_iald hx hb hE.1 hP 6 0 rfl rfl (q_in g2) dX9_passRow_12 ?_
        obtain ⟨q3, hq3, ht⟩ := it_b ht
        have hFc := q_freeW (hD S0) hS hA
        refine q_mi (va_runV (As := [.int (S0 5 x3.toNatClampNeg)]) (rest := [.int x3, .ref (d0 6)]) ⟨hx, hb, hml, hown, hts⟩ (kX9_pass l D cI cZ cO d0 H.size S0 (S0 5 x3.toNatClampNeg) q3 hq3) (cwV 1 hts gX9_passRow_X9_pass rfl rfl rfl (by decide +kernel) ⟨Nat.le_of_ble_eq_true rfl, Nat.le_of_ble_eq_true rfl⟩) (q_mV (As := [.int (S0 5 x3.toNatClampNeg)]) hE hP (hD S0) (q0 := 0) (ci := 9) rfl rfl) rfl rfl hl.1 rfl (lv_room (Nat.le_of_ble_eq_true rfl)) dX9_passRow_13 ⟨Nat.le_of_ble_eq_true rfl, Nat.le_of_ble_eq_true rfl⟩) hS hFc (fun H locs b4 hP1 hk hS => ?_)
        have hP : va_P D vwCl (wg9 cI cZ d0 q3.2) H := hP1
        refine va_iast hx hb hE.1 hP (hD _) hS 6 0 rfl rfl (q_in g2) dX9_passRow_16 (fun H locs hP _ hS => ?_)
        have hP : va_P D vwCl (wg9 cI cZ d0 (q_su q3.2 5 x3.toNatClampNeg q3.1)) H := hP
        obtain ⟨T5, eT5⟩ : ∃ z : St, z = q_su q3.2 5 x3.toNatClampNeg q3.1 := ⟨_, rfl⟩
        rw [← eT5] at hP
        have ht := it_l ht eT5
        refine lv_iinc (v := x3 + 1) (lv' := [(3, .int (x3 + 1)), (0, .ref (d0 0)), (1, .ref (d0 6)), (2, .int p1)]) hx hb dX9_passRow_17 hl (k := 3) rfl rfl (by decide) rfl (fun ls hl => ?_)
        refine lv_goto (tgt := 2) hx hb dX9_passRow_20 (by decide) ?_
        exact ih2 (x3 + 1) T5 _ _ hP hS ls (lv_sub hl [1, 2, 3, 0] rfl) ht
  refine lv_iconst (v := 0) hx hb dX9_passRow_0 (by decide) ?_
  refine lv_istore_n (lv' := [(3, .int 0), (0, .ref (d0 0)), (1, .ref (d0 6)), (2, .int p1)]) hx hb dX9_passRow_1 rfl hl (by decide) rfl (fun ls hl => ?_)
  exact L2 5000 0 S0 _ _ hP hS ls (lv_sub hl [1, 2, 3, 0] rfl) ht
abbrev rmX9_passRow_r6 : Room := { frames := 1, cells := 0, slots := 0, locals := 22 }
set_option maxHeartbeats 4000000 in
set_option maxRecDepth 100000 in
theorem kX9_passRow_r6 (l : Launch) (D : va_G) (cI cZ cO : ClassId) (d0 : Nat → Nat) (sz : Nat) (S0 : St) (p1 : Int32) (tg : St) (ht : xX9_passRow 6 4 p1 S0 = some tg) : Met l yX9_passRow wsX9_passRow rmX9_passRow_r6 (q_PM D cI cZ cO [.ref (d0 0), .ref (d0 7), .int p1] sz (wg9 cI cZ d0 S0)) (va_Qv (fun _ : Unit => True) (fun _ t => va_P D vwCl (wg9 cI cZ d0 tg) t.heap) (va_A (wg9 cI cZ d0 S0) sz)) 0 0 (va_A (wg9 cI cZ d0 S0) sz) := by
  refine Met.ofW (cc := cX9_passRow) (maxL := 4) (ret := none) (by decide) rfl ?_
  intro p e s m args below meth c s₁ B hml hv
  obtain ⟨rfl, hsz, hE, hP, hD0⟩ := hv
  have hx := B.exec
  have hb := B.bytes
  have hr := B.returns
  have hts := atoms_spec (ws := wsX9_passRow) B.pre
  have hown : s.vm.findClass RX9 = some m.cls := findClass_of_methodNamed B.named
  have hlocks := B.notSynchronized
  subst hsz
  have hD1 := hD0.self (sz := s.heap.size)
  generalize hAe : va_A (wg9 cI cZ d0 S0) s.heap.size = A at hD1 ⊢
  have hA : ∀ q : Nat, s.heap.size ≤ q → A q := fun q h => by rw [← hAe]; exact Or.inr h
  have hS : va_S A s.heap s.heap [] := va_S.rf
  have hD : ∀ (S0 : St), va_D A (wg9 cI cZ d0 S0) := fun S0 => q_D hD1 rfl
  have hl := lv_entry ([.ref (d0 0), .ref (d0 7), .int p1]) (n := 4) (Nat.le_of_ble_eq_true rfl)
  rw [lg_entry_eq]
  generalize (lg_sl ([.ref (d0 0), .ref (d0 7), .int p1]) ++ List.replicate (4 - (lg_sl ([.ref (d0 0), .ref (d0 7), .int p1])).length) Slot.unset).toArray = ls at hl ⊢
  have hl : lv_has ls 4 [(0, .ref (d0 0)), (1, .ref (d0 7)), (2, .int p1)] := hl
  have ht := (xX9_passRow_s 6 4 p1 S0).symm.trans ht
  obtain ⟨Q, hQ⟩ : ∃ Q, Q = MQ below (va_Qv (fun _ : Unit => True) (fun _ t => va_P D vwCl (wg9 cI cZ d0 tg) t.heap) A) ([.ref (d0 0), .ref (d0 7), .int p1] : List Value).toArray s 0 0 A := ⟨_, rfl⟩
  rw [← hQ]
  have L2 : ∀ (n : Nat) (x3 : Int32) (S0 : St) (H : Heap) (locs : List Loc) (_ : va_P D vwCl (wg9 cI cZ d0 S0) H) (_ : va_S A s.heap H locs) (ls : Array Slot) (_ : lv_has ls 4 [(0, .ref (d0 0)), (1, .ref (d0 7)), (2, .int p1), (3, .int x3)]) (_ : xX9_passRow_h2 6 4 p1 n x3 S0 = some tg), W p l e (headSpec wsX9_passRow rmX9_passRow_r6).room s m ([.ref (d0 0), .ref (d0 7), .int p1] : List Value).toArray below meth c H locs 0 0 Q (F0 m 2 ls []) := by
    intro n
    induction n with
    | zero =>
      intro x3 S0 H locs hP hS ls hl ht
      exact it_z ht
    | succ n2 ih2 =>
      intro x3 S0 H locs hP hS ls hl ht
      have ht := (xX9_passRow_h2_s 6 4 p1 n2 x3 S0).symm.trans ht
      refine lv_iload_n hx hb dX9_passRow_2 rfl (lv_at hl 3 rfl) ?_
      refine lv_iload_n hx hb dX9_passRow_3 rfl (lv_at hl 2 rfl) ?_
      refine lv_icmp_ge (tgt := 23) hx hb dX9_passRow_4 (by decide) (fun c1 => ?_) (fun c1 => ?_)
      · have ht := it_p c1 ht
        subst hQ
        obtain rfl := Option.some.inj ht
        exact W.vret hx hb hr (fun t e1 hW => ⟨⟨(), rfl, trivial, q_at e1 hP⟩, hS.F e1⟩) hS.2.2 dX9_passRow_23
      · have ht := it_n c1 ht
        refine lv_aload_n hx hb dX9_passRow_7 rfl (lv_at hl 1 rfl) ?_
        refine lv_iload_n hx hb dX9_passRow_8 rfl (lv_at hl 3 rfl) ?_
        refine lv_aload_n hx hb dX9_passRow_9 rfl (lv_at hl 0 rfl) ?_
        refine lv_aload_n hx hb dX9_passRow_10 rfl (lv_at hl 1 rfl) ?_
        refine lv_iload_n hx hb dX9_passRow_11 rfl (lv_at hl 3 rfl) ?_
        obtain ⟨g2, ht⟩ := it_g ht
        refine va_iald hx hb hE.1 hP 7 0 rfl rfl (q_in g2) dX9_passRow_12 ?_
        obtain ⟨q3, hq3, ht⟩ := it_b ht
        have hFc := q_freeW (hD S0) hS hA
        refine q_mi (va_runV (As := [.int (S0 6 x3.toNatClampNeg)]) (rest := [.int x3, .ref (d0 7)]) ⟨hx, hb, hml, hown, hts⟩ (kX9_pass l D cI cZ cO d0 H.size S0 (S0 6 x3.toNatClampNeg) q3 hq3) (cwV 1 hts gX9_passRow_X9_pass rfl rfl rfl (by decide +kernel) ⟨Nat.le_of_ble_eq_true rfl, Nat.le_of_ble_eq_true rfl⟩) (q_mV (As := [.int (S0 6 x3.toNatClampNeg)]) hE hP (hD S0) (q0 := 0) (ci := 9) rfl rfl) rfl rfl hl.1 rfl (lv_room (Nat.le_of_ble_eq_true rfl)) dX9_passRow_13 ⟨Nat.le_of_ble_eq_true rfl, Nat.le_of_ble_eq_true rfl⟩) hS hFc (fun H locs b4 hP1 hk hS => ?_)
        have hP : va_P D vwCl (wg9 cI cZ d0 q3.2) H := hP1
        refine va_iast hx hb hE.1 hP (hD _) hS 7 0 rfl rfl (q_in g2) dX9_passRow_16 (fun H locs hP _ hS => ?_)
        have hP : va_P D vwCl (wg9 cI cZ d0 (q_su q3.2 6 x3.toNatClampNeg q3.1)) H := hP
        obtain ⟨T5, eT5⟩ : ∃ z : St, z = q_su q3.2 6 x3.toNatClampNeg q3.1 := ⟨_, rfl⟩
        rw [← eT5] at hP
        have ht := it_l ht eT5
        refine lv_iinc (v := x3 + 1) (lv' := [(3, .int (x3 + 1)), (0, .ref (d0 0)), (1, .ref (d0 7)), (2, .int p1)]) hx hb dX9_passRow_17 hl (k := 3) rfl rfl (by decide) rfl (fun ls hl => ?_)
        refine lv_goto (tgt := 2) hx hb dX9_passRow_20 (by decide) ?_
        exact ih2 (x3 + 1) T5 _ _ hP hS ls (lv_sub hl [1, 2, 3, 0] rfl) ht
  refine lv_iconst (v := 0) hx hb dX9_passRow_0 (by decide) ?_
  refine lv_istore_n (lv' := [(3, .int 0), (0, .ref (d0 0)), (1, .ref (d0 7)), (2, .int p1)]) hx hb dX9_passRow_1 rfl hl (by decide) rfl (fun ls hl => ?_)
  exact L2 5000 0 S0 _ _ hP hS ls (lv_sub hl [1, 2, 3, 0] rfl) ht
abbrev rmX9_passRow_r7 : Room := { frames := 1, cells := 0, slots := 0, locals := 22 }
set_option maxHeartbeats 4000000 in
set_option maxRecDepth 100000 in
theorem kX9_passRow_r7 (l : Launch) (D : va_G) (cI cZ cO : ClassId) (d0 : Nat → Nat) (sz : Nat) (S0 : St) (p1 : Int32) (tg : St) (ht : xX9_passRow 7 4 p1 S0 = some tg) : Met l yX9_passRow wsX9_passRow rmX9_passRow_r7 (q_PM D cI cZ cO [.ref (d0 0), .ref (d0 8), .int p1] sz (wg9 cI cZ d0 S0)) (va_Qv (fun _ : Unit => True) (fun _ t => va_P D vwCl (wg9 cI cZ d0 tg) t.heap) (va_A (wg9 cI cZ d0 S0) sz)) 0 0 (va_A (wg9 cI cZ d0 S0) sz) := by
  refine Met.ofW (cc := cX9_passRow) (maxL := 4) (ret := none) (by decide) rfl ?_
  intro p e s m args below meth c s₁ B hml hv
  obtain ⟨rfl, hsz, hE, hP, hD0⟩ := hv
  have hx := B.exec
  have hb := B.bytes
  have hr := B.returns
  have hts := atoms_spec (ws := wsX9_passRow) B.pre
  have hown : s.vm.findClass RX9 = some m.cls := findClass_of_methodNamed B.named
  have hlocks := B.notSynchronized
  subst hsz
  have hD1 := hD0.self (sz := s.heap.size)
  generalize hAe : va_A (wg9 cI cZ d0 S0) s.heap.size = A at hD1 ⊢
  have hA : ∀ q : Nat, s.heap.size ≤ q → A q := fun q h => by rw [← hAe]; exact Or.inr h
  have hS : va_S A s.heap s.heap [] := va_S.rf
  have hD : ∀ (S0 : St), va_D A (wg9 cI cZ d0 S0) := fun S0 => q_D hD1 rfl
  have hl := lv_entry ([.ref (d0 0), .ref (d0 8), .int p1]) (n := 4) (Nat.le_of_ble_eq_true rfl)
  rw [lg_entry_eq]
  generalize (lg_sl ([.ref (d0 0), .ref (d0 8), .int p1]) ++ List.replicate (4 - (lg_sl ([.ref (d0 0), .ref (d0 8), .int p1])).length) Slot.unset).toArray = ls at hl ⊢
  have hl : lv_has ls 4 [(0, .ref (d0 0)), (1, .ref (d0 8)), (2, .int p1)] := hl
  have ht := (xX9_passRow_s 7 4 p1 S0).symm.trans ht
  obtain ⟨Q, hQ⟩ : ∃ Q, Q = MQ below (va_Qv (fun _ : Unit => True) (fun _ t => va_P D vwCl (wg9 cI cZ d0 tg) t.heap) A) ([.ref (d0 0), .ref (d0 8), .int p1] : List Value).toArray s 0 0 A := ⟨_, rfl⟩
  rw [← hQ]
  have L2 : ∀ (n : Nat) (x3 : Int32) (S0 : St) (H : Heap) (locs : List Loc) (_ : va_P D vwCl (wg9 cI cZ d0 S0) H) (_ : va_S A s.heap H locs) (ls : Array Slot) (_ : lv_has ls 4 [(0, .ref (d0 0)), (1, .ref (d0 8)), (2, .int p1), (3, .int x3)]) (_ : xX9_passRow_h2 7 4 p1 n x3 S0 = some tg), W p l e (headSpec wsX9_passRow rmX9_passRow_r7).room s m ([.ref (d0 0), .ref (d0 8), .int p1] : List Value).toArray below meth c H locs 0 0 Q (F0 m 2 ls []) := by
    intro n
    induction n with
    | zero =>
      intro x3 S0 H locs hP hS ls hl ht
      exact it_z ht
    | succ n2 ih2 =>
      intro x3 S0 H locs hP hS ls hl ht
      have ht := (xX9_passRow_h2_s 7 4 p1 n2 x3 S0).symm.trans ht
      refine lv_iload_n hx hb dX9_passRow_2 rfl (lv_at hl 3 rfl) ?_
      refine lv_iload_n hx hb dX9_passRow_3 rfl (lv_at hl 2 rfl) ?_
      refine lv_icmp_ge (tgt := 23) hx hb dX9_passRow_4 (by decide) (fun c1 => ?_) (fun c1 => ?_)
      · have ht := it_p c1 ht
        subst hQ
        obtain rfl := Option.some.inj ht
        exact W.vret hx hb hr (fun t e1 hW => ⟨⟨(), rfl, trivial, q_at e1 hP⟩, hS.F e1⟩) hS.2.2 dX9_passRow_23
      · have ht := it_n c1 ht
        refine lv_aload_n hx hb dX9_passRow_7 rfl (lv_at hl 1 rfl) ?_
        refine lv_iload_n hx hb dX9_passRow_8 rfl (lv_at hl 3 rfl) ?_
        refine lv_aload_n hx hb dX9_passRow_9 rfl (lv_at hl 0 rfl) ?_
        refine lv_aload_n hx hb dX9_passRow_10 rfl (lv_at hl 1 rfl) ?_
        refine lv_iload_n hx hb dX9_passRow_11 rfl (lv_at hl 3 rfl) ?_
        obtain ⟨g2, ht⟩ := it_g ht
        refine va_iald hx hb hE.1 hP 8 0 rfl rfl (q_in g2) dX9_passRow_12 ?_
        obtain ⟨q3, hq3, ht⟩ := it_b ht
        have hFc := q_freeW (hD S0) hS hA
        refine q_mi (va_runV (As := [.int (S0 7 x3.toNatClampNeg)]) (rest := [.int x3, .ref (d0 8)]) ⟨hx, hb, hml, hown, hts⟩ (kX9_pass l D cI cZ cO d0 H.size S0 (S0 7 x3.toNatClampNeg) q3 hq3) (cwV 1 hts gX9_passRow_X9_pass rfl rfl rfl (by decide +kernel) ⟨Nat.le_of_ble_eq_true rfl, Nat.le_of_ble_eq_true rfl⟩) (q_mV (As := [.int (S0 7 x3.toNatClampNeg)]) hE hP (hD S0) (q0 := 0) (ci := 9) rfl rfl) rfl rfl hl.1 rfl (lv_room (Nat.le_of_ble_eq_true rfl)) dX9_passRow_13 ⟨Nat.le_of_ble_eq_true rfl, Nat.le_of_ble_eq_true rfl⟩) hS hFc (fun H locs b4 hP1 hk hS => ?_)
        have hP : va_P D vwCl (wg9 cI cZ d0 q3.2) H := hP1
        refine va_iast hx hb hE.1 hP (hD _) hS 8 0 rfl rfl (q_in g2) dX9_passRow_16 (fun H locs hP _ hS => ?_)
        have hP : va_P D vwCl (wg9 cI cZ d0 (q_su q3.2 7 x3.toNatClampNeg q3.1)) H := hP
        obtain ⟨T5, eT5⟩ : ∃ z : St, z = q_su q3.2 7 x3.toNatClampNeg q3.1 := ⟨_, rfl⟩
        rw [← eT5] at hP
        have ht := it_l ht eT5
        refine lv_iinc (v := x3 + 1) (lv' := [(3, .int (x3 + 1)), (0, .ref (d0 0)), (1, .ref (d0 8)), (2, .int p1)]) hx hb dX9_passRow_17 hl (k := 3) rfl rfl (by decide) rfl (fun ls hl => ?_)
        refine lv_goto (tgt := 2) hx hb dX9_passRow_20 (by decide) ?_
        exact ih2 (x3 + 1) T5 _ _ hP hS ls (lv_sub hl [1, 2, 3, 0] rfl) ht
  refine lv_iconst (v := 0) hx hb dX9_passRow_0 (by decide) ?_
  refine lv_istore_n (lv' := [(3, .int 0), (0, .ref (d0 0)), (1, .ref (d0 8)), (2, .int p1)]) hx hb dX9_passRow_1 rfl hl (by decide) rfl (fun ls hl => ?_)
  exact L2 5000 0 S0 _ _ hP hS ls (lv_sub hl [1, 2, 3, 0] rfl) ht
abbrev rmX9_passRow_r8 : Room := { frames := 1, cells := 0, slots := 0, locals := 22 }
set_option maxHeartbeats 4000000 in
set_option maxRecDepth 100000 in
theorem kX9_passRow_r8 (l : Launch) (D : va_G) (cI cZ cO : ClassId) (d0 : Nat → Nat) (sz : Nat) (S0 : St) (p1 : Int32) (tg : St) (ht : xX9_passRow 8 4 p1 S0 = some tg) : Met l yX9_passRow wsX9_passRow rmX9_passRow_r8 (q_PM D cI cZ cO [.ref (d0 0), .ref (d0 9), .int p1] sz (wg9 cI cZ d0 S0)) (va_Qv (fun _ : Unit => True) (fun _ t => va_P D vwCl (wg9 cI cZ d0 tg) t.heap) (va_A (wg9 cI cZ d0 S0) sz)) 0 0 (va_A (wg9 cI cZ d0 S0) sz) := by
  refine Met.ofW (cc := cX9_passRow) (maxL := 4) (ret := none) (by decide) rfl ?_
  intro p e s m args below meth c s₁ B hml hv
  obtain ⟨rfl, hsz, hE, hP, hD0⟩ := hv
  have hx := B.exec
  have hb := B.bytes
  have hr := B.returns
  have hts := atoms_spec (ws := wsX9_passRow) B.pre
  have hown : s.vm.findClass RX9 = some m.cls := findClass_of_methodNamed B.named
  have hlocks := B.notSynchronized
  subst hsz
  have hD1 := hD0.self (sz := s.heap.size)
  generalize hAe : va_A (wg9 cI cZ d0 S0) s.heap.size = A at hD1 ⊢
  have hA : ∀ q : Nat, s.heap.size ≤ q → A q := fun q h => by rw [← hAe]; exact Or.inr h
  have hS : va_S A s.heap s.heap [] := va_S.rf
  have hD : ∀ (S0 : St), va_D A (wg9 cI cZ d0 S0) := fun S0 => q_D hD1 rfl
  have hl := lv_entry ([.ref (d0 0), .ref (d0 9), .int p1]) (n := 4) (Nat.le_of_ble_eq_true rfl)
  rw [lg_entry_eq]
  generalize (lg_sl ([.ref (d0 0), .ref (d0 9), .int p1]) ++ List.replicate (4 - (lg_sl ([.ref (d0 0), .ref (d0 9), .int p1])).length) Slot.unset).toArray = ls at hl ⊢
  have hl : lv_has ls 4 [(0, .ref (d0 0)), (1, .ref (d0 9)), (2, .int p1)] := hl
  have ht := (xX9_passRow_s 8 4 p1 S0).symm.trans ht
  obtain ⟨Q, hQ⟩ : ∃ Q, Q = MQ below (va_Qv (fun _ : Unit => True) (fun _ t => va_P D vwCl (wg9 cI cZ d0 tg) t.heap) A) ([.ref (d0 0), .ref (d0 9), .int p1] : List Value).toArray s 0 0 A := ⟨_, rfl⟩
  rw [← hQ]
  have L2 : ∀ (n : Nat) (x3 : Int32) (S0 : St) (H : Heap) (locs : List Loc) (_ : va_P D vwCl (wg9 cI cZ d0 S0) H) (_ : va_S A s.heap H locs) (ls : Array Slot) (_ : lv_has ls 4 [(0, .ref (d0 0)), (1, .ref (d0 9)), (2, .int p1), (3, .int x3)]) (_ : xX9_passRow_h2 8 4 p1 n x3 S0 = some tg), W p l e (headSpec wsX9_passRow rmX9_passRow_r8).room s m ([.ref (d0 0), .ref (d0 9), .int p1] : List Value).toArray below meth c H locs 0 0 Q (F0 m 2 ls []) := by
    intro n
    induction n with
    | zero =>
      intro x3 S0 H locs hP hS ls hl ht
      exact it_z ht
    | succ n2 ih2 =>
      intro x3 S0 H locs hP hS ls hl ht
      have ht := (xX9_passRow_h2_s 8 4 p1 n2 x3 S0).symm.trans ht
      refine lv_iload_n hx hb dX9_passRow_2 rfl (lv_at hl 3 rfl) ?_
      refine lv_iload_n hx hb dX9_passRow_3 rfl (lv_at hl 2 rfl) ?_
      refine lv_icmp_ge (tgt := 23) hx hb dX9_passRow_4 (by decide) (fun c1 => ?_) (fun c1 => ?_)
      · have ht := it_p c1 ht
        subst hQ
        obtain rfl := Option.some.inj ht
        exact W.vret hx hb hr (fun t e1 hW => ⟨⟨(), rfl, trivial, q_at e1 hP⟩, hS.F e1⟩) hS.2.2 dX9_passRow_23
      · have ht := it_n c1 ht
        refine lv_aload_n hx hb dX9_passRow_7 rfl (lv_at hl 1 rfl) ?_
        refine lv_iload_n hx hb dX9_passRow_8 rfl (lv_at hl 3 rfl) ?_
        refine lv_aload_n hx hb dX9_passRow_9 rfl (lv_at hl 0 rfl) ?_
        refine lv_aload_n hx hb dX9_passRow_10 rfl (lv_at hl 1 rfl) ?_
        refine lv_iload_n hx hb dX9_passRow_11 rfl (lv_at hl 3 rfl) ?_
        obtain ⟨g2, ht⟩ := it_g ht
        refine va_iald hx hb hE.1 hP 9 0 rfl rfl (q_in g2) dX9_passRow_12 ?_
        obtain ⟨q3, hq3, ht⟩ := it_b ht
        have hFc := q_freeW (hD S0) hS hA
        refine q_mi (va_runV (As := [.int (S0 8 x3.toNatClampNeg)]) (rest := [.int x3, .ref (d0 9)]) ⟨hx, hb, hml, hown, hts⟩ (kX9_pass l D cI cZ cO d0 H.size S0 (S0 8 x3.toNatClampNeg) q3 hq3) (cwV 1 hts gX9_passRow_X9_pass rfl rfl rfl (by decide +kernel) ⟨Nat.le_of_ble_eq_true rfl, Nat.le_of_ble_eq_true rfl⟩) (q_mV (As := [.int (S0 8 x3.toNatClampNeg)]) hE hP (hD S0) (q0 := 0) (ci := 9) rfl rfl) rfl rfl hl.1 rfl (lv_room (Nat.le_of_ble_eq_true rfl)) dX9_passRow_13 ⟨Nat.le_of_ble_eq_true rfl, Nat.le_of_ble_eq_true rfl⟩) hS hFc (fun H locs b4 hP1 hk hS => ?_)
        have hP : va_P D vwCl (wg9 cI cZ d0 q3.2) H := hP1
        refine va_iast hx hb hE.1 hP (hD _) hS 9 0 rfl rfl (q_in g2) dX9_passRow_16 (fun H locs hP _ hS => ?_)
        have hP : va_P D vwCl (wg9 cI cZ d0 (q_su q3.2 8 x3.toNatClampNeg q3.1)) H := hP
        obtain ⟨T5, eT5⟩ : ∃ z : St, z = q_su q3.2 8 x3.toNatClampNeg q3.1 := ⟨_, rfl⟩
        rw [← eT5] at hP
        have ht := it_l ht eT5
        refine lv_iinc (v := x3 + 1) (lv' := [(3, .int (x3 + 1)), (0, .ref (d0 0)), (1, .ref (d0 9)), (2, .int p1)]) hx hb dX9_passRow_17 hl (k := 3) rfl rfl (by decide) rfl (fun ls hl => ?_)
        refine lv_goto (tgt := 2) hx hb dX9_passRow_20 (by decide) ?_
        exact ih2 (x3 + 1) T5 _ _ hP hS ls (lv_sub hl [1, 2, 3, 0] rfl) ht
  refine lv_iconst (v := 0) hx hb dX9_passRow_0 (by decide) ?_
  refine lv_istore_n (lv' := [(3, .int 0), (0, .ref (d0 0)), (1, .ref (d0 9)), (2, .int p1)]) hx hb dX9_passRow_1 rfl hl (by decide) rfl (fun ls hl => ?_)
  exact L2 5000 0 S0 _ _ hP hS ls (lv_sub hl [1, 2, 3, 0] rfl) ht
abbrev rmX9_passRow_r11 : Room := { frames := 1, cells := 0, slots := 0, locals := 22 }
set_option maxHeartbeats 4000000 in
set_option maxRecDepth 100000 in
theorem kX9_passRow_r11 (l : Launch) (D : va_G) (cI cZ cO : ClassId) (d0 : Nat → Nat) (sz : Nat) (S0 : St) (p1 : Int32) (tg : St) (ht : xX9_passRow 11 8 p1 S0 = some tg) : Met l yX9_passRow wsX9_passRow rmX9_passRow_r11 (q_PM D cI cZ cO [.ref (d0 0), .ref (d0 12), .int p1] sz (wg9 cI cZ d0 S0)) (va_Qv (fun _ : Unit => True) (fun _ t => va_P D vwCl (wg9 cI cZ d0 tg) t.heap) (va_A (wg9 cI cZ d0 S0) sz)) 0 0 (va_A (wg9 cI cZ d0 S0) sz) := by
  refine Met.ofW (cc := cX9_passRow) (maxL := 4) (ret := none) (by decide) rfl ?_
  intro p e s m args below meth c s₁ B hml hv
  obtain ⟨rfl, hsz, hE, hP, hD0⟩ := hv
  have hx := B.exec
  have hb := B.bytes
  have hr := B.returns
  have hts := atoms_spec (ws := wsX9_passRow) B.pre
  have hown : s.vm.findClass RX9 = some m.cls := findClass_of_methodNamed B.named
  have hlocks := B.notSynchronized
  subst hsz
  have hD1 := hD0.self (sz := s.heap.size)
  generalize hAe : va_A (wg9 cI cZ d0 S0) s.heap.size = A at hD1 ⊢
  have hA : ∀ q : Nat, s.heap.size ≤ q → A q := fun q h => by rw [← hAe]; exact Or.inr h
  have hS : va_S A s.heap s.heap [] := va_S.rf
  have hD : ∀ (S0 : St), va_D A (wg9 cI cZ d0 S0) := fun S0 => q_D hD1 rfl
  have hl := lv_entry ([.ref (d0 0), .ref (d0 12), .int p1]) (n := 4) (Nat.le_of_ble_eq_true rfl)
  rw [lg_entry_eq]
  generalize (lg_sl ([.ref (d0 0), .ref (d0 12), .int p1]) ++ List.replicate (4 - (lg_sl ([.ref (d0 0), .ref (d0 12), .int p1])).length) Slot.unset).toArray = ls at hl ⊢
  have hl : lv_has ls 4 [(0, .ref (d0 0)), (1, .ref (d0 12)), (2, .int p1)] := hl
  have ht := (xX9_passRow_s 11 8 p1 S0).symm.trans ht
  obtain ⟨Q, hQ⟩ : ∃ Q, Q = MQ below (va_Qv (fun _ : Unit => True) (fun _ t => va_P D vwCl (wg9 cI cZ d0 tg) t.heap) A) ([.ref (d0 0), .ref (d0 12), .int p1] : List Value).toArray s 0 0 A := ⟨_, rfl⟩
  rw [← hQ]
  have L2 : ∀ (n : Nat) (x3 : Int32) (S0 : St) (H : Heap) (locs : List Loc) (_ : va_P D vwCl (wg9 cI cZ d0 S0) H) (_ : va_S A s.heap H locs) (ls : Array Slot) (_ : lv_has ls 4 [(0, .ref (d0 0)), (1, .ref (d0 12)), (2, .int p1), (3, .int x3)]) (_ : xX9_passRow_h2 11 8 p1 n x3 S0 = some tg), W p l e (headSpec wsX9_passRow rmX9_passRow_r11).room s m ([.ref (d0 0), .ref (d0 12), .int p1] : List Value).toArray below meth c H locs 0 0 Q (F0 m 2 ls []) := by
    intro n
    induction n with
    | zero =>
      intro x3 S0 H locs hP hS ls hl ht
      exact it_z ht
    | succ n2 ih2 =>
      intro x3 S0 H locs hP hS ls hl ht
      have ht := (xX9_passRow_h2_s 11 8 p1 n2 x3 S0).symm.trans ht
      refine lv_iload_n hx hb dX9_passRow_2 rfl (lv_at hl 3 rfl) ?_
      refine lv_iload_n hx hb dX9_passRow_3 rfl (lv_at hl 2 rfl) ?_
      refine lv_icmp_ge (tgt := 23) hx hb dX9_passRow_4 (by decide) (fun c1 => ?_) (fun c1 => ?_)
      · have ht := it_p c1 ht
        subst hQ
        obtain rfl := Option.some.inj ht
        exact W.vret hx hb hr (fun t e1 hW => ⟨⟨(), rfl, trivial, q_at e1 hP⟩, hS.F e1⟩) hS.2.2 dX9_passRow_23
      · have ht := it_n c1 ht
        refine lv_aload_n hx hb dX9_passRow_7 rfl (lv_at hl 1 rfl) ?_
        refine lv_iload_n hx hb dX9_passRow_8 rfl (lv_at hl 3 rfl) ?_
        refine lv_aload_n hx hb dX9_passRow_9 rfl (lv_at hl 0 rfl) ?_
        refine lv_aload_n hx hb dX9_passRow_10 rfl (lv_at hl 1 rfl) ?_
        refine lv_iload_n hx hb dX9_passRow_11 rfl (lv_at hl 3 rfl) ?_
        obtain ⟨g2, ht⟩ := it_g ht
        refine va_iald hx hb hE.1 hP 10 0 rfl rfl (q_in g2) dX9_passRow_12 ?_
        obtain ⟨q3, hq3, ht⟩ := it_b ht
        have hFc := q_freeW (hD S0) hS hA
        refine q_mi (va_runV (As := [.int (S0 11 x3.toNatClampNeg)]) (rest := [.int x3, .ref (d0 12)]) ⟨hx, hb, hml, hown, hts⟩ (kX9_pass l D cI cZ cO d0 H.size S0 (S0 11 x3.toNatClampNeg) q3 hq3) (cwV 1 hts gX9_passRow_X9_pass rfl rfl rfl (by decide +kernel) ⟨Nat.le_of_ble_eq_true rfl, Nat.le_of_ble_eq_true rfl⟩) (q_mV (As := [.int (S0 11 x3.toNatClampNeg)]) hE hP (hD S0) (q0 := 0) (ci := 9) rfl rfl) rfl rfl hl.1 rfl (lv_room (Nat.le_of_ble_eq_true rfl)) dX9_passRow_13 ⟨Nat.le_of_ble_eq_true rfl, Nat.le_of_ble_eq_true rfl⟩) hS hFc (fun H locs b4 hP1 hk hS => ?_)
        have hP : va_P D vwCl (wg9 cI cZ d0 q3.2) H := hP1
        refine va_iast hx hb hE.1 hP (hD _) hS 10 0 rfl rfl (q_in g2) dX9_passRow_16 (fun H locs hP _ hS => ?_)
        have hP : va_P D vwCl (wg9 cI cZ d0 (q_su q3.2 11 x3.toNatClampNeg q3.1)) H := hP
        obtain ⟨T5, eT5⟩ : ∃ z : St, z = q_su q3.2 11 x3.toNatClampNeg q3.1 := ⟨_, rfl⟩
        rw [← eT5] at hP
        have ht := it_l ht eT5
        refine lv_iinc (v := x3 + 1) (lv' := [(3, .int (x3 + 1)), (0, .ref (d0 0)), (1, .ref (d0 12)), (2, .int p1)]) hx hb dX9_passRow_17 hl (k := 3) rfl rfl (by decide) rfl (fun ls hl => ?_)
        refine lv_goto (tgt := 2) hx hb dX9_passRow_20 (by decide) ?_
        exact ih2 (x3 + 1) T5 _ _ hP hS ls (lv_sub hl [1, 2, 3, 0] rfl) ht
  refine lv_iconst (v := 0) hx hb dX9_passRow_0 (by decide) ?_
  refine lv_istore_n (lv' := [(3, .int 0), (0, .ref (d0 0)), (1, .ref (d0 12)), (2, .int p1)]) hx hb dX9_passRow_1 rfl hl (by decide) rfl (fun ls hl => ?_)
  exact L2 5000 0 S0 _ _ hP hS ls (lv_sub hl [1, 2, 3, 0] rfl) ht
abbrev rmX9_passRow_r12 : Room := { frames := 1, cells := 0, slots := 0, locals := 22 }
set_option maxHeartbeats 4000000 in
set_option maxRecDepth 100000 in
theorem kX9_passRow_r12 (l : Launch) (D : va_G) (cI cZ cO : ClassId) (d0 : Nat → Nat) (sz : Nat) (S0 : St) (p1 : Int32) (tg : St) (ht : xX9_passRow 12 8 p1 S0 = some tg) : Met l yX9_passRow wsX9_passRow rmX9_passRow_r12 (q_PM D cI cZ cO [.ref (d0 0), .ref (d0 13), .int p1] sz (wg9 cI cZ d0 S0)) (va_Qv (fun _ : Unit => True) (fun _ t => va_P D vwCl (wg9 cI cZ d0 tg) t.heap) (va_A (wg9 cI cZ d0 S0) sz)) 0 0 (va_A (wg9 cI cZ d0 S0) sz) := by
  refine Met.ofW (cc := cX9_passRow) (maxL := 4) (ret := none) (by decide) rfl ?_
  intro p e s m args below meth c s₁ B hml hv
  obtain ⟨rfl, hsz, hE, hP, hD0⟩ := hv
  have hx := B.exec
  have hb := B.bytes
  have hr := B.returns
  have hts := atoms_spec (ws := wsX9_passRow) B.pre
  have hown : s.vm.findClass RX9 = some m.cls := findClass_of_methodNamed B.named
  have hlocks := B.notSynchronized
  subst hsz
  have hD1 := hD0.self (sz := s.heap.size)
  generalize hAe : va_A (wg9 cI cZ d0 S0) s.heap.size = A at hD1 ⊢
  have hA : ∀ q : Nat, s.heap.size ≤ q → A q := fun q h => by rw [← hAe]; exact Or.inr h
  have hS : va_S A s.heap s.heap [] := va_S.rf
  have hD : ∀ (S0 : St), va_D A (wg9 cI cZ d0 S0) := fun S0 => q_D hD1 rfl
  have hl := lv_entry ([.ref (d0 0), .ref (d0 13), .int p1]) (n := 4) (Nat.le_of_ble_eq_true rfl)
  rw [lg_entry_eq]
  generalize (lg_sl ([.ref (d0 0), .ref (d0 13), .int p1]) ++ List.replicate (4 - (lg_sl ([.ref (d0 0), .ref (d0 13), .int p1])).length) Slot.unset).toArray = ls at hl ⊢
  have hl : lv_has ls 4 [(0, .ref (d0 0)), (1, .ref (d0 13)), (2, .int p1)] := hl
  have ht := (xX9_passRow_s 12 8 p1 S0).symm.trans ht
  obtain ⟨Q, hQ⟩ : ∃ Q, Q = MQ below (va_Qv (fun _ : Unit => True) (fun _ t => va_P D vwCl (wg9 cI cZ d0 tg) t.heap) A) ([.ref (d0 0), .ref (d0 13), .int p1] : List Value).toArray s 0 0 A := ⟨_, rfl⟩
  rw [← hQ]
  have L2 : ∀ (n : Nat) (x3 : Int32) (S0 : St) (H : Heap) (locs : List Loc) (_ : va_P D vwCl (wg9 cI cZ d0 S0) H) (_ : va_S A s.heap H locs) (ls : Array Slot) (_ : lv_has ls 4 [(0, .ref (d0 0)), (1, .ref (d0 13)), (2, .int p1), (3, .int x3)]) (_ : xX9_passRow_h2 12 8 p1 n x3 S0 = some tg), W p l e (headSpec wsX9_passRow rmX9_passRow_r12).room s m ([.ref (d0 0), .ref (d0 13), .int p1] : List Value).toArray below meth c H locs 0 0 Q (F0 m 2 ls []) := by
    intro n
    induction n with
    | zero =>
      intro x3 S0 H locs hP hS ls hl ht
      exact it_z ht
    | succ n2 ih2 =>
      intro x3 S0 H locs hP hS ls hl ht
      have ht := (xX9_passRow_h2_s 12 8 p1 n2 x3 S0).symm.trans ht
      refine lv_iload_n hx hb dX9_passRow_2 rfl (lv_at hl 3 rfl) ?_
      refine lv_iload_n hx hb dX9_passRow_3 rfl (lv_at hl 2 rfl) ?_
      refine lv_icmp_ge (tgt := 23) hx hb dX9_passRow_4 (by decide) (fun c1 => ?_) (fun c1 => ?_)
      · have ht := it_p c1 ht
        subst hQ
        obtain rfl := Option.some.inj ht
        exact W.vret hx hb hr (fun t e1 hW => ⟨⟨(), rfl, trivial, q_at e1 hP⟩, hS.F e1⟩) hS.2.2 dX9_passRow_23
      · have ht := it_n c1 ht
        refine lv_aload_n hx hb dX9_passRow_7 rfl (lv_at hl 1 rfl) ?_
        refine lv_iload_n hx hb dX9_passRow_8 rfl (lv_at hl 3 rfl) ?_
        refine lv_aload_n hx hb dX9_passRow_9 rfl (lv_at hl 0 rfl) ?_
        refine lv_aload_n hx hb dX9_passRow_10 rfl (lv_at hl 1 rfl) ?_
        refine lv_iload_n hx hb dX9_passRow_11 rfl (lv_at hl 3 rfl) ?_
        obtain ⟨g2, ht⟩ := it_g ht
        refine va_iald hx hb hE.1 hP 11 0 rfl rfl (q_in g2) dX9_passRow_12 ?_
        obtain ⟨q3, hq3, ht⟩ := it_b ht
        have hFc := q_freeW (hD S0) hS hA
        refine q_mi (va_runV (As := [.int (S0 12 x3.toNatClampNeg)]) (rest := [.int x3, .ref (d0 13)]) ⟨hx, hb, hml, hown, hts⟩ (kX9_pass l D cI cZ cO d0 H.size S0 (S0 12 x3.toNatClampNeg) q3 hq3) (cwV 1 hts gX9_passRow_X9_pass rfl rfl rfl (by decide +kernel) ⟨Nat.le_of_ble_eq_true rfl, Nat.le_of_ble_eq_true rfl⟩) (q_mV (As := [.int (S0 12 x3.toNatClampNeg)]) hE hP (hD S0) (q0 := 0) (ci := 9) rfl rfl) rfl rfl hl.1 rfl (lv_room (Nat.le_of_ble_eq_true rfl)) dX9_passRow_13 ⟨Nat.le_of_ble_eq_true rfl, Nat.le_of_ble_eq_true rfl⟩) hS hFc (fun H locs b4 hP1 hk hS => ?_)
        have hP : va_P D vwCl (wg9 cI cZ d0 q3.2) H := hP1
        refine va_iast hx hb hE.1 hP (hD _) hS 11 0 rfl rfl (q_in g2) dX9_passRow_16 (fun H locs hP _ hS => ?_)
        have hP : va_P D vwCl (wg9 cI cZ d0 (q_su q3.2 12 x3.toNatClampNeg q3.1)) H := hP
        obtain ⟨T5, eT5⟩ : ∃ z : St, z = q_su q3.2 12 x3.toNatClampNeg q3.1 := ⟨_, rfl⟩
        rw [← eT5] at hP
        have ht := it_l ht eT5
        refine lv_iinc (v := x3 + 1) (lv' := [(3, .int (x3 + 1)), (0, .ref (d0 0)), (1, .ref (d0 13)), (2, .int p1)]) hx hb dX9_passRow_17 hl (k := 3) rfl rfl (by decide) rfl (fun ls hl => ?_)
        refine lv_goto (tgt := 2) hx hb dX9_passRow_20 (by decide) ?_
        exact ih2 (x3 + 1) T5 _ _ hP hS ls (lv_sub hl [1, 2, 3, 0] rfl) ht
  refine lv_iconst (v := 0) hx hb dX9_passRow_0 (by decide) ?_
  refine lv_istore_n (lv' := [(3, .int 0), (0, .ref (d0 0)), (1, .ref (d0 13)), (2, .int p1)]) hx hb dX9_passRow_1 rfl hl (by decide) rfl (fun ls hl => ?_)
  exact L2 5000 0 S0 _ _ hP hS ls (lv_sub hl [1, 2, 3, 0] rfl) ht
abbrev rmX9_passRow_r13 : Room := { frames := 1, cells := 0, slots := 0, locals := 22 }
set_option maxHeartbeats 4000000 in
set_option maxRecDepth 100000 in
theorem kX9_passRow_r13 (l : Launch) (D : va_G) (cI cZ cO : ClassId) (d0 : Nat → Nat) (sz : Nat) (S0 : St) (p1 : Int32) (tg : St) (ht : xX9_passRow 13 8 p1 S0 = some tg) : Met l yX9_passRow wsX9_passRow rmX9_passRow_r13 (q_PM D cI cZ cO [.ref (d0 0), .ref (d0 14), .int p1] sz (wg9 cI cZ d0 S0)) (va_Qv (fun _ : Unit => True) (fun _ t => va_P D vwCl (wg9 cI cZ d0 tg) t.heap) (va_A (wg9 cI cZ d0 S0) sz)) 0 0 (va_A (wg9 cI cZ d0 S0) sz) := by
  refine Met.ofW (cc := cX9_passRow) (maxL := 4) (ret := none) (by decide) rfl ?_
  intro p e s m args below meth c s₁ B hml hv
  obtain ⟨rfl, hsz, hE, hP, hD0⟩ := hv
  have hx := B.exec
  have hb := B.bytes
  have hr := B.returns
  have hts := atoms_spec (ws := wsX9_passRow) B.pre
  have hown : s.vm.findClass RX9 = some m.cls := findClass_of_methodNamed B.named
  have hlocks := B.notSynchronized
  subst hsz
  have hD1 := hD0.self (sz := s.heap.size)
  generalize hAe : va_A (wg9 cI cZ d0 S0) s.heap.size = A at hD1 ⊢
  have hA : ∀ q : Nat, s.heap.size ≤ q → A q := fun q h => by rw [← hAe]; exact Or.inr h
  have hS : va_S A s.heap s.heap [] := va_S.rf
  have hD : ∀ (S0 : St), va_D A (wg9 cI cZ d0 S0) := fun S0 => q_D hD1 rfl
  have hl := lv_entry ([.ref (d0 0), .ref (d0 14), .int p1]) (n := 4) (Nat.le_of_ble_eq_true rfl)
  rw [lg_entry_eq]
  generalize (lg_sl ([.ref (d0 0), .ref (d0 14), .int p1]) ++ List.replicate (4 - (lg_sl ([.ref (d0 0), .ref (d0 14), .int p1])).length) Slot.unset).toArray = ls at hl ⊢
  have hl : lv_has ls 4 [(0, .ref (d0 0)), (1, .ref (d0 14)), (2, .int p1)] := hl
  have ht := (xX9_passRow_s 13 8 p1 S0).symm.trans ht
  obtain ⟨Q, hQ⟩ : ∃ Q, Q = MQ below (va_Qv (fun _ : Unit => True) (fun _ t => va_P D vwCl (wg9 cI cZ d0 tg) t.heap) A) ([.ref (d0 0), .ref (d0 14), .int p1] : List Value).toArray s 0 0 A := ⟨_, rfl⟩
  rw [← hQ]
  have L2 : ∀ (n : Nat) (x3 : Int32) (S0 : St) (H : Heap) (locs : List Loc) (_ : va_P D vwCl (wg9 cI cZ d0 S0) H) (_ : va_S A s.heap H locs) (ls : Array Slot) (_ : lv_has ls 4 [(0, .ref (d0 0)), (1, .ref (d0 14)), (2, .int p1), (3, .int x3)]) (_ : xX9_passRow_h2 13 8 p1 n x3 S0 = some tg), W p l e (headSpec wsX9_passRow rmX9_passRow_r13).room s m ([.ref (d0 0), .ref (d0 14), .int p1] : List Value).toArray below meth c H locs 0 0 Q (F0 m 2 ls []) := by
    intro n
    induction n with
    | zero =>
      intro x3 S0 H locs hP hS ls hl ht
      exact it_z ht
    | succ n2 ih2 =>
      intro x3 S0 H locs hP hS ls hl ht
      have ht := (xX9_passRow_h2_s 13 8 p1 n2 x3 S0).symm.trans ht
      refine lv_iload_n hx hb dX9_passRow_2 rfl (lv_at hl 3 rfl) ?_
      refine lv_iload_n hx hb dX9_passRow_3 rfl (lv_at hl 2 rfl) ?_
      refine lv_icmp_ge (tgt := 23) hx hb dX9_passRow_4 (by decide) (fun c1 => ?_) (fun c1 => ?_)
      · have ht := it_p c1 ht
        subst hQ
        obtain rfl := Option.some.inj ht
        exact W.vret hx hb hr (fun t e1 hW => ⟨⟨(), rfl, trivial, q_at e1 hP⟩, hS.F e1⟩) hS.2.2 dX9_passRow_23
      · have ht := it_n c1 ht
        refine lv_aload_n hx hb dX9_passRow_7 rfl (lv_at hl 1 rfl) ?_
        refine lv_iload_n hx hb dX9_passRow_8 rfl (lv_at hl 3 rfl) ?_
        refine lv_aload_n hx hb dX9_passRow_9 rfl (lv_at hl 0 rfl) ?_
        refine lv_aload_n hx hb dX9_passRow_10 rfl (lv_at hl 1 rfl) ?_
        refine lv_iload_n hx hb dX9_passRow_11 rfl (lv_at hl 3 rfl) ?_
        obtain ⟨g2, ht⟩ := it_g ht
        refine va_iald hx hb hE.1 hP 12 0 rfl rfl (q_in g2) dX9_passRow_12 ?_
        obtain ⟨q3, hq3, ht⟩ := it_b ht
        have hFc := q_freeW (hD S0) hS hA
        refine q_mi (va_runV (As := [.int (S0 13 x3.toNatClampNeg)]) (rest := [.int x3, .ref (d0 14)]) ⟨hx, hb, hml, hown, hts⟩ (kX9_pass l D cI cZ cO d0 H.size S0 (S0 13 x3.toNatClampNeg) q3 hq3) (cwV 1 hts gX9_passRow_X9_pass rfl rfl rfl (by decide +kernel) ⟨Nat.le_of_ble_eq_true rfl, Nat.le_of_ble_eq_true rfl⟩) (q_mV (As := [.int (S0 13 x3.toNatClampNeg)]) hE hP (hD S0) (q0 := 0) (ci := 9) rfl rfl) rfl rfl hl.1 rfl (lv_room (Nat.le_of_ble_eq_true rfl)) dX9_passRow_13 ⟨Nat.le_of_ble_eq_true rfl, Nat.le_of_ble_eq_true rfl⟩) hS hFc (fun H locs b4 hP1 hk hS => ?_)
        have hP : va_P D vwCl (wg9 cI cZ d0 q3.2) H := hP1
        refine va_iast hx hb hE.1 hP (hD _) hS 12 0 rfl rfl (q_in g2) dX9_passRow_16 (fun H locs hP _ hS => ?_)
        have hP : va_P D vwCl (wg9 cI cZ d0 (q_su q3.2 13 x3.toNatClampNeg q3.1)) H := hP
        obtain ⟨T5, eT5⟩ : ∃ z : St, z = q_su q3.2 13 x3.toNatClampNeg q3.1 := ⟨_, rfl⟩
        rw [← eT5] at hP
        have ht := it_l ht eT5
        refine lv_iinc (v := x3 + 1) (lv' := [(3, .int (x3 + 1)), (0, .ref (d0 0)), (1, .ref (d0 14)), (2, .int p1)]) hx hb dX9_passRow_17 hl (k := 3) rfl rfl (by decide) rfl (fun ls hl => ?_)
        refine lv_goto (tgt := 2) hx hb dX9_passRow_20 (by decide) ?_
        exact ih2 (x3 + 1) T5 _ _ hP hS ls (lv_sub hl [1, 2, 3, 0] rfl) ht
  refine lv_iconst (v := 0) hx hb dX9_passRow_0 (by decide) ?_
  refine lv_istore_n (lv' := [(3, .int 0), (0, .ref (d0 0)), (1, .ref (d0 14)), (2, .int p1)]) hx hb dX9_passRow_1 rfl hl (by decide) rfl (fun ls hl => ?_)
  exact L2 5000 0 S0 _ _ hP hS ls (lv_sub hl [1, 2, 3, 0] rfl) ht
abbrev rmX9_passAll : Room := { frames := 2, cells := 0, slots := 0, locals := 45 }
set_option maxHeartbeats 4000000 in
set_option maxRecDepth 100000 in
theorem kX9_passAll (l : Launch) (D : va_G) (cI cZ cO : ClassId) (d0 : Nat → Nat) (sz : Nat) (S0 : St) (tg : St) (ht : xX9_passAll S0 = some tg) : Met l yX9_passAll wsX9_passAll rmX9_passAll (q_PM D cI cZ cO [.ref (d0 0)] sz (wg9 cI cZ d0 S0)) (va_Qv (fun _ : Unit => True) (fun _ t => va_P D vwCl (wg9 cI cZ d0 tg) t.heap) (va_A (wg9 cI cZ d0 S0) sz)) 0 0 (va_A (wg9 cI cZ d0 S0) sz) := by
  refine Met.ofW (cc := cX9_passAll) (maxL := 1) (ret := none) (by decide) rfl ?_
  intro p e s m args below meth c s₁ B hml hv
  obtain ⟨rfl, hsz, hE, hP, hD0⟩ := hv
  have hx := B.exec
  have hb := B.bytes
  have hr := B.returns
  have hts := atoms_spec (ws := wsX9_passAll) B.pre
  have hown : s.vm.findClass RX9 = some m.cls := findClass_of_methodNamed B.named
  have hlocks := B.notSynchronized
  have hi9 : ∀ w ∈ u_ws RX9 TX9 37, w ∈ wsX9_passAll := by decide +kernel
  have hw0 := hts (.fieldLink RX9 77 "HailNamesModel" "melting" "I") (by decide +kernel)
  have hw1 := hts (.fieldLink RX9 156 "HailNamesModel" "seconds" "I") (by decide +kernel)
  have hw2 := hts (.fieldLink RX9 285 "HailNamesModel" "sights" "I") (by decide +kernel)
  have hw3 := hts (.fieldLink RX9 7 "HailNamesModel" "counts" "[I") (by decide +kernel)
  have hw4 := hts (.fieldLink RX9 13 "HailNamesModel" "noted" "[I") (by decide +kernel)
  have hw5 := hts (.fieldLink RX9 16 "HailNamesModel" "lies" "[I") (by decide +kernel)
  have hw6 := hts (.fieldLink RX9 19 "HailNamesModel" "size" "[I") (by decide +kernel)
  have hw7 := hts (.fieldLink RX9 22 "HailNamesModel" "figure" "[I") (by decide +kernel)
  have hw8 := hts (.fieldLink RX9 25 "HailNamesModel" "stands" "[I") (by decide +kernel)
  have hw9 := hts (.fieldLink RX9 28 "HailNamesModel" "stun" "[I") (by decide +kernel)
  have hw10 := hts (.fieldLink RX9 31 "HailNamesModel" "hasRead" "[I") (by decide +kernel)
  have hw11 := hts (.fieldLink RX9 34 "HailNamesModel" "did" "[I") (by decide +kernel)
  have hw12 := hts (.fieldLink RX9 37 "HailNamesModel" "sightSet" "[I") (by decide +kernel)
  have hw13 := hts (.fieldLink RX9 40 "HailNamesModel" "sightOf" "[I") (by decide +kernel)
  have hw14 := hts (.fieldLink RX9 43 "HailNamesModel" "sightMany" "[I") (by decide +kernel)
  subst hsz
  have hD1 := hD0.self (sz := s.heap.size)
  generalize hAe : va_A (wg9 cI cZ d0 S0) s.heap.size = A at hD1 ⊢
  have hA : ∀ q : Nat, s.heap.size ≤ q → A q := fun q h => by rw [← hAe]; exact Or.inr h
  have hS : va_S A s.heap s.heap [] := va_S.rf
  have hD : ∀ (S0 : St), va_D A (wg9 cI cZ d0 S0) := fun S0 => q_D hD1 rfl
  have hl := lv_entry ([.ref (d0 0)]) (n := 1) (Nat.le_of_ble_eq_true rfl)
  rw [lg_entry_eq]
  generalize (lg_sl ([.ref (d0 0)]) ++ List.replicate (1 - (lg_sl ([.ref (d0 0)])).length) Slot.unset).toArray = ls at hl ⊢
  have hl : lv_has ls 1 [(0, .ref (d0 0))] := hl
  have ht := (xX9_passAll_s S0).symm.trans ht
  refine lv_aload_n hx hb dX9_passAll_0 rfl (lv_at hl 0 rfl) ?_
  refine lv_aload_n hx hb dX9_passAll_1 rfl (lv_at hl 0 rfl) ?_
  refine lv_aload_n hx hb dX9_passAll_2 rfl (lv_at hl 0 rfl) ?_
  refine va_get (D := D) (ci := 9) (v := .int (S0 9 0)) (C := RX9) (T := TX9) (N := 37) hx hb hts hi9 hown hE.1 hP 0 rfl rfl 9 (by decide) hw0 (fun _ h9 => h9) rfl dX9_passAll_3 ?_
  obtain ⟨q1, hq1, ht⟩ := it_b ht
  have hFc := q_freeW (hD S0) hS hA
  refine q_mi (va_runV (As := [.int (S0 9 0)]) (rest := [.ref (d0 0)]) ⟨hx, hb, hml, hown, hts⟩ (kX9_pass l D cI cZ cO d0 s.heap.size S0 (S0 9 0) q1 hq1) (cwV 1 hts gX9_passAll_X9_pass rfl rfl rfl (by decide +kernel) ⟨Nat.le_of_ble_eq_true rfl, Nat.le_of_ble_eq_true rfl⟩) (q_mV (As := [.int (S0 9 0)]) hE hP (hD S0) (q0 := 0) (ci := 9) rfl rfl) rfl rfl hl.1 rfl (lv_room (Nat.le_of_ble_eq_true rfl)) dX9_passAll_6 ⟨Nat.le_of_ble_eq_true rfl, Nat.le_of_ble_eq_true rfl⟩) hS hFc (fun H locs b2 hP1 hk hS => ?_)
  have hP : va_P D vwCl (wg9 cI cZ d0 q1.2) H := hP1
  refine va_put (D := D) (ci := 9) (v := .int q1.1) (ty := .int) (C := RX9) (T := TX9) (N := 37) hx hb hts hi9 tyX9 tyX9_ok nmX9 hown hE.1 hP (hD _) hS 0 rfl rfl 9 (by decide) hw0 (fun _ h9 => h9) rfl (by decide +kernel) rfl rfl (Nat.le_of_ble_eq_true rfl) dX9_passAll_9 (fun H locs hP _ hS => ?_)
  have hP : va_P D vwCl (wg9 cI cZ d0 (q_su q1.2 9 0 q1.1)) H := hP
  obtain ⟨T3, eT3⟩ : ∃ z : St, z = q_su q1.2 9 0 q1.1 := ⟨_, rfl⟩
  rw [← eT3] at hP
  have ht := it_l ht eT3
  refine lv_aload_n hx hb dX9_passAll_12 rfl (lv_at hl 0 rfl) ?_
  refine lv_aload_n hx hb dX9_passAll_13 rfl (lv_at hl 0 rfl) ?_
  refine lv_aload_n hx hb dX9_passAll_14 rfl (lv_at hl 0 rfl) ?_
  refine va_get (D := D) (ci := 9) (v := .int (T3 10 0)) (C := RX9) (T := TX9) (N := 37) hx hb hts hi9 hown hE.1 hP 0 rfl rfl 10 (by decide) hw1 (fun _ h9 => h9) rfl dX9_passAll_15 ?_
  obtain ⟨q4, hq4, ht⟩ := it_b ht
  have hFc := q_freeW (hD T3) hS hA
  refine q_mi (va_runV (As := [.int (T3 10 0)]) (rest := [.ref (d0 0)]) ⟨hx, hb, hml, hown, hts⟩ (kX9_pass l D cI cZ cO d0 H.size T3 (T3 10 0) q4 hq4) (cwV 1 hts gX9_passAll_X9_pass rfl rfl rfl (by decide +kernel) ⟨Nat.le_of_ble_eq_true rfl, Nat.le_of_ble_eq_true rfl⟩) (q_mV (As := [.int (T3 10 0)]) hE hP (hD T3) (q0 := 0) (ci := 9) rfl rfl) rfl rfl hl.1 rfl (lv_room (Nat.le_of_ble_eq_true rfl)) dX9_passAll_18 ⟨Nat.le_of_ble_eq_true rfl, Nat.le_of_ble_eq_true rfl⟩) hS hFc (fun H locs b5 hP1 hk hS => ?_)
  have hP : va_P D vwCl (wg9 cI cZ d0 q4.2) H := hP1
  refine va_put (D := D) (ci := 9) (v := .int q4.1) (ty := .int) (C := RX9) (T := TX9) (N := 37) hx hb hts hi9 tyX9 tyX9_ok nmX9 hown hE.1 hP (hD _) hS 0 rfl rfl 10 (by decide) hw1 (fun _ h9 => h9) rfl (by decide +kernel) rfl rfl (Nat.le_of_ble_eq_true rfl) dX9_passAll_21 (fun H locs hP _ hS => ?_)
  have hP : va_P D vwCl (wg9 cI cZ d0 (q_su q4.2 10 0 q4.1)) H := hP
  obtain ⟨T6, eT6⟩ : ∃ z : St, z = q_su q4.2 10 0 q4.1 := ⟨_, rfl⟩
  rw [← eT6] at hP
  have ht := it_l ht eT6
  refine lv_aload_n hx hb dX9_passAll_24 rfl (lv_at hl 0 rfl) ?_
  refine lv_aload_n hx hb dX9_passAll_25 rfl (lv_at hl 0 rfl) ?_
  refine lv_aload_n hx hb dX9_passAll_26 rfl (lv_at hl 0 rfl) ?_
  refine va_get (D := D) (ci := 9) (v := .int (T6 14 0)) (C := RX9) (T := TX9) (N := 37) hx hb hts hi9 hown hE.1 hP 0 rfl rfl 14 (by decide) hw2 (fun _ h9 => h9) rfl dX9_passAll_27 ?_
  obtain ⟨q7, hq7, ht⟩ := it_b ht
  have hFc := q_freeW (hD T6) hS hA
  refine q_mi (va_runV (As := [.int (T6 14 0)]) (rest := [.ref (d0 0)]) ⟨hx, hb, hml, hown, hts⟩ (kX9_pass l D cI cZ cO d0 H.size T6 (T6 14 0) q7 hq7) (cwV 1 hts gX9_passAll_X9_pass rfl rfl rfl (by decide +kernel) ⟨Nat.le_of_ble_eq_true rfl, Nat.le_of_ble_eq_true rfl⟩) (q_mV (As := [.int (T6 14 0)]) hE hP (hD T6) (q0 := 0) (ci := 9) rfl rfl) rfl rfl hl.1 rfl (lv_room (Nat.le_of_ble_eq_true rfl)) dX9_passAll_30 ⟨Nat.le_of_ble_eq_true rfl, Nat.le_of_ble_eq_true rfl⟩) hS hFc (fun H locs b8 hP1 hk hS => ?_)
  have hP : va_P D vwCl (wg9 cI cZ d0 q7.2) H := hP1
  refine va_put (D := D) (ci := 9) (v := .int q7.1) (ty := .int) (C := RX9) (T := TX9) (N := 37) hx hb hts hi9 tyX9 tyX9_ok nmX9 hown hE.1 hP (hD _) hS 0 rfl rfl 14 (by decide) hw2 (fun _ h9 => h9) rfl (by decide +kernel) rfl rfl (Nat.le_of_ble_eq_true rfl) dX9_passAll_33 (fun H locs hP _ hS => ?_)
  have hP : va_P D vwCl (wg9 cI cZ d0 (q_su q7.2 14 0 q7.1)) H := hP
  obtain ⟨T9, eT9⟩ : ∃ z : St, z = q_su q7.2 14 0 q7.1 := ⟨_, rfl⟩
  rw [← eT9] at hP
  have ht := it_l ht eT9
  refine lv_aload_n hx hb dX9_passAll_36 rfl (lv_at hl 0 rfl) ?_
  refine lv_aload_n hx hb dX9_passAll_37 rfl (lv_at hl 0 rfl) ?_
  refine va_get (D := D) (ci := 9) (v := .ref (d0 1)) (C := RX9) (T := TX9) (N := 37) hx hb hts hi9 hown hE.1 hP 0 rfl rfl 0 (by decide) hw3 (fun _ h9 => h9) rfl dX9_passAll_38 ?_
  refine lv_bipush (v := 8) hx hb dX9_passAll_41 (by decide) ?_
  obtain ⟨q10, hq10, ht⟩ := it_b ht
  have hFc := q_freeW (hD T9) hS hA
  refine q_mv (va_runV (As := [.ref (d0 1), .int 8]) (rest := []) ⟨hx, hb, hml, hown, hts⟩ (kX9_passRow_r0 l D cI cZ cO d0 H.size T9 8 q10 hq10) (cwV 2 hts gX9_passAll_X9_passRow rfl rfl rfl (by decide +kernel) ⟨Nat.le_of_ble_eq_true rfl, Nat.le_of_ble_eq_true rfl⟩) (q_mV (As := [.ref (d0 1), .int 8]) hE hP (hD T9) (q0 := 0) (ci := 9) rfl rfl) rfl rfl hl.1 rfl (lv_room (Nat.le_of_ble_eq_true rfl)) dX9_passAll_43 ⟨Nat.le_of_ble_eq_true rfl, Nat.le_of_ble_eq_true rfl⟩) hS hFc (fun H locs hP1 hk hS => ?_)
  have hP : va_P D vwCl (wg9 cI cZ d0 q10) H := hP1
  refine lv_aload_n hx hb dX9_passAll_46 rfl (lv_at hl 0 rfl) ?_
  refine lv_aload_n hx hb dX9_passAll_47 rfl (lv_at hl 0 rfl) ?_
  refine va_get (D := D) (ci := 9) (v := .ref (d0 2)) (C := RX9) (T := TX9) (N := 37) hx hb hts hi9 hown hE.1 hP 0 rfl rfl 1 (by decide) hw4 (fun _ h9 => h9) rfl dX9_passAll_48 ?_
  refine lv_bipush (v := 8) hx hb dX9_passAll_51 (by decide) ?_
  obtain ⟨q11, hq11, ht⟩ := it_b ht
  have hFc := q_freeW (hD q10) hS hA
  refine q_mv (va_runV (As := [.ref (d0 2), .int 8]) (rest := []) ⟨hx, hb, hml, hown, hts⟩ (kX9_passRow_r1 l D cI cZ cO d0 H.size q10 8 q11 hq11) (cwV 2 hts gX9_passAll_X9_passRow rfl rfl rfl (by decide +kernel) ⟨Nat.le_of_ble_eq_true rfl, Nat.le_of_ble_eq_true rfl⟩) (q_mV (As := [.ref (d0 2), .int 8]) hE hP (hD q10) (q0 := 0) (ci := 9) rfl rfl) rfl rfl hl.1 rfl (lv_room (Nat.le_of_ble_eq_true rfl)) dX9_passAll_53 ⟨Nat.le_of_ble_eq_true rfl, Nat.le_of_ble_eq_true rfl⟩) hS hFc (fun H locs hP1 hk hS => ?_)
  have hP : va_P D vwCl (wg9 cI cZ d0 q11) H := hP1
  refine lv_aload_n hx hb dX9_passAll_56 rfl (lv_at hl 0 rfl) ?_
  refine lv_aload_n hx hb dX9_passAll_57 rfl (lv_at hl 0 rfl) ?_
  refine va_get (D := D) (ci := 9) (v := .ref (d0 3)) (C := RX9) (T := TX9) (N := 37) hx hb hts hi9 hown hE.1 hP 0 rfl rfl 2 (by decide) hw5 (fun _ h9 => h9) rfl dX9_passAll_58 ?_
  refine lv_bipush (v := 8) hx hb dX9_passAll_61 (by decide) ?_
  obtain ⟨q12, hq12, ht⟩ := it_b ht
  have hFc := q_freeW (hD q11) hS hA
  refine q_mv (va_runV (As := [.ref (d0 3), .int 8]) (rest := []) ⟨hx, hb, hml, hown, hts⟩ (kX9_passRow_r2 l D cI cZ cO d0 H.size q11 8 q12 hq12) (cwV 2 hts gX9_passAll_X9_passRow rfl rfl rfl (by decide +kernel) ⟨Nat.le_of_ble_eq_true rfl, Nat.le_of_ble_eq_true rfl⟩) (q_mV (As := [.ref (d0 3), .int 8]) hE hP (hD q11) (q0 := 0) (ci := 9) rfl rfl) rfl rfl hl.1 rfl (lv_room (Nat.le_of_ble_eq_true rfl)) dX9_passAll_63 ⟨Nat.le_of_ble_eq_true rfl, Nat.le_of_ble_eq_true rfl⟩) hS hFc (fun H locs hP1 hk hS => ?_)
  have hP : va_P D vwCl (wg9 cI cZ d0 q12) H := hP1
  refine lv_aload_n hx hb dX9_passAll_66 rfl (lv_at hl 0 rfl) ?_
  refine lv_aload_n hx hb dX9_passAll_67 rfl (lv_at hl 0 rfl) ?_
  refine va_get (D := D) (ci := 9) (v := .ref (d0 4)) (C := RX9) (T := TX9) (N := 37) hx hb hts hi9 hown hE.1 hP 0 rfl rfl 3 (by decide) hw6 (fun _ h9 => h9) rfl dX9_passAll_68 ?_
  refine lv_bipush (v := 8) hx hb dX9_passAll_71 (by decide) ?_
  obtain ⟨q13, hq13, ht⟩ := it_b ht
  have hFc := q_freeW (hD q12) hS hA
  refine q_mv (va_runV (As := [.ref (d0 4), .int 8]) (rest := []) ⟨hx, hb, hml, hown, hts⟩ (kX9_passRow_r3 l D cI cZ cO d0 H.size q12 8 q13 hq13) (cwV 2 hts gX9_passAll_X9_passRow rfl rfl rfl (by decide +kernel) ⟨Nat.le_of_ble_eq_true rfl, Nat.le_of_ble_eq_true rfl⟩) (q_mV (As := [.ref (d0 4), .int 8]) hE hP (hD q12) (q0 := 0) (ci := 9) rfl rfl) rfl rfl hl.1 rfl (lv_room (Nat.le_of_ble_eq_true rfl)) dX9_passAll_73 ⟨Nat.le_of_ble_eq_true rfl, Nat.le_of_ble_eq_true rfl⟩) hS hFc (fun H locs hP1 hk hS => ?_)
  have hP : va_P D vwCl (wg9 cI cZ d0 q13) H := hP1
  refine lv_aload_n hx hb dX9_passAll_76 rfl (lv_at hl 0 rfl) ?_
  refine lv_aload_n hx hb dX9_passAll_77 rfl (lv_at hl 0 rfl) ?_
  refine va_get (D := D) (ci := 9) (v := .ref (d0 5)) (C := RX9) (T := TX9) (N := 37) hx hb hts hi9 hown hE.1 hP 0 rfl rfl 4 (by decide) hw7 (fun _ h9 => h9) rfl dX9_passAll_78 ?_
  refine lv_bipush (v := 8) hx hb dX9_passAll_81 (by decide) ?_
  obtain ⟨q14, hq14, ht⟩ := it_b ht
  have hFc := q_freeW (hD q13) hS hA
  refine q_mv (va_runV (As := [.ref (d0 5), .int 8]) (rest := []) ⟨hx, hb, hml, hown, hts⟩ (kX9_passRow_r4 l D cI cZ cO d0 H.size q13 8 q14 hq14) (cwV 2 hts gX9_passAll_X9_passRow rfl rfl rfl (by decide +kernel) ⟨Nat.le_of_ble_eq_true rfl, Nat.le_of_ble_eq_true rfl⟩) (q_mV (As := [.ref (d0 5), .int 8]) hE hP (hD q13) (q0 := 0) (ci := 9) rfl rfl) rfl rfl hl.1 rfl (lv_room (Nat.le_of_ble_eq_true rfl)) dX9_passAll_83 ⟨Nat.le_of_ble_eq_true rfl, Nat.le_of_ble_eq_true rfl⟩) hS hFc (fun H locs hP1 hk hS => ?_)
  have hP : va_P D vwCl (wg9 cI cZ d0 q14) H := hP1
  refine lv_aload_n hx hb dX9_passAll_86 rfl (lv_at hl 0 rfl) ?_
  refine lv_aload_n hx hb dX9_passAll_87 rfl (lv_at hl 0 rfl) ?_
  refine va_get (D := D) (ci := 9) (v := .ref (d0 6)) (C := RX9) (T := TX9) (N := 37) hx hb hts hi9 hown hE.1 hP 0 rfl rfl 5 (by decide) hw8 (fun _ h9 => h9) rfl dX9_passAll_88 ?_
  refine lv_iconst (v := 4) hx hb dX9_passAll_91 (by decide) ?_
  obtain ⟨q15, hq15, ht⟩ := it_b ht
  have hFc := q_freeW (hD q14) hS hA
  refine q_mv (va_runV (As := [.ref (d0 6), .int 4]) (rest := []) ⟨hx, hb, hml, hown, hts⟩ (kX9_passRow_r5 l D cI cZ cO d0 H.size q14 4 q15 hq15) (cwV 2 hts gX9_passAll_X9_passRow rfl rfl rfl (by decide +kernel) ⟨Nat.le_of_ble_eq_true rfl, Nat.le_of_ble_eq_true rfl⟩) (q_mV (As := [.ref (d0 6), .int 4]) hE hP (hD q14) (q0 := 0) (ci := 9) rfl rfl) rfl rfl hl.1 rfl (lv_room (Nat.le_of_ble_eq_true rfl)) dX9_passAll_92 ⟨Nat.le_of_ble_eq_true rfl, Nat.le_of_ble_eq_true rfl⟩) hS hFc (fun H locs hP1 hk hS => ?_)
  have hP : va_P D vwCl (wg9 cI cZ d0 q15) H := hP1
  refine lv_aload_n hx hb dX9_passAll_95 rfl (lv_at hl 0 rfl) ?_
  refine lv_aload_n hx hb dX9_passAll_96 rfl (lv_at hl 0 rfl) ?_
  refine va_get (D := D) (ci := 9) (v := .ref (d0 7)) (C := RX9) (T := TX9) (N := 37) hx hb hts hi9 hown hE.1 hP 0 rfl rfl 6 (by decide) hw9 (fun _ h9 => h9) rfl dX9_passAll_97 ?_
  refine lv_iconst (v := 4) hx hb dX9_passAll_100 (by decide) ?_
  obtain ⟨q16, hq16, ht⟩ := it_b ht
  have hFc := q_freeW (hD q15) hS hA
  refine q_mv (va_runV (As := [.ref (d0 7), .int 4]) (rest := []) ⟨hx, hb, hml, hown, hts⟩ (kX9_passRow_r6 l D cI cZ cO d0 H.size q15 4 q16 hq16) (cwV 2 hts gX9_passAll_X9_passRow rfl rfl rfl (by decide +kernel) ⟨Nat.le_of_ble_eq_true rfl, Nat.le_of_ble_eq_true rfl⟩) (q_mV (As := [.ref (d0 7), .int 4]) hE hP (hD q15) (q0 := 0) (ci := 9) rfl rfl) rfl rfl hl.1 rfl (lv_room (Nat.le_of_ble_eq_true rfl)) dX9_passAll_101 ⟨Nat.le_of_ble_eq_true rfl, Nat.le_of_ble_eq_true rfl⟩) hS hFc (fun H locs hP1 hk hS => ?_)
  have hP : va_P D vwCl (wg9 cI cZ d0 q16) H := hP1
  refine lv_aload_n hx hb dX9_passAll_104 rfl (lv_at hl 0 rfl) ?_
  refine lv_aload_n hx hb dX9_passAll_105 rfl (lv_at hl 0 rfl) ?_
  refine va_get (D := D) (ci := 9) (v := .ref (d0 8)) (C := RX9) (T := TX9) (N := 37) hx hb hts hi9 hown hE.1 hP 0 rfl rfl 7 (by decide) hw10 (fun _ h9 => h9) rfl dX9_passAll_106 ?_
  refine lv_iconst (v := 4) hx hb dX9_passAll_109 (by decide) ?_
  obtain ⟨q17, hq17, ht⟩ := it_b ht
  have hFc := q_freeW (hD q16) hS hA
  refine q_mv (va_runV (As := [.ref (d0 8), .int 4]) (rest := []) ⟨hx, hb, hml, hown, hts⟩ (kX9_passRow_r7 l D cI cZ cO d0 H.size q16 4 q17 hq17) (cwV 2 hts gX9_passAll_X9_passRow rfl rfl rfl (by decide +kernel) ⟨Nat.le_of_ble_eq_true rfl, Nat.le_of_ble_eq_true rfl⟩) (q_mV (As := [.ref (d0 8), .int 4]) hE hP (hD q16) (q0 := 0) (ci := 9) rfl rfl) rfl rfl hl.1 rfl (lv_room (Nat.le_of_ble_eq_true rfl)) dX9_passAll_110 ⟨Nat.le_of_ble_eq_true rfl, Nat.le_of_ble_eq_true rfl⟩) hS hFc (fun H locs hP1 hk hS => ?_)
  have hP : va_P D vwCl (wg9 cI cZ d0 q17) H := hP1
  refine lv_aload_n hx hb dX9_passAll_113 rfl (lv_at hl 0 rfl) ?_
  refine lv_aload_n hx hb dX9_passAll_114 rfl (lv_at hl 0 rfl) ?_
  refine va_get (D := D) (ci := 9) (v := .ref (d0 9)) (C := RX9) (T := TX9) (N := 37) hx hb hts hi9 hown hE.1 hP 0 rfl rfl 8 (by decide) hw11 (fun _ h9 => h9) rfl dX9_passAll_115 ?_
  refine lv_iconst (v := 4) hx hb dX9_passAll_118 (by decide) ?_
  obtain ⟨q18, hq18, ht⟩ := it_b ht
  have hFc := q_freeW (hD q17) hS hA
  refine q_mv (va_runV (As := [.ref (d0 9), .int 4]) (rest := []) ⟨hx, hb, hml, hown, hts⟩ (kX9_passRow_r8 l D cI cZ cO d0 H.size q17 4 q18 hq18) (cwV 2 hts gX9_passAll_X9_passRow rfl rfl rfl (by decide +kernel) ⟨Nat.le_of_ble_eq_true rfl, Nat.le_of_ble_eq_true rfl⟩) (q_mV (As := [.ref (d0 9), .int 4]) hE hP (hD q17) (q0 := 0) (ci := 9) rfl rfl) rfl rfl hl.1 rfl (lv_room (Nat.le_of_ble_eq_true rfl)) dX9_passAll_119 ⟨Nat.le_of_ble_eq_true rfl, Nat.le_of_ble_eq_true rfl⟩) hS hFc (fun H locs hP1 hk hS => ?_)
  have hP : va_P D vwCl (wg9 cI cZ d0 q18) H := hP1
  refine lv_aload_n hx hb dX9_passAll_122 rfl (lv_at hl 0 rfl) ?_
  refine lv_aload_n hx hb dX9_passAll_123 rfl (lv_at hl 0 rfl) ?_
  refine va_get (D := D) (ci := 9) (v := .ref (d0 12)) (C := RX9) (T := TX9) (N := 37) hx hb hts hi9 hown hE.1 hP 0 rfl rfl 11 (by decide) hw12 (fun _ h9 => h9) rfl dX9_passAll_124 ?_
  refine lv_bipush (v := 8) hx hb dX9_passAll_127 (by decide) ?_
  obtain ⟨q19, hq19, ht⟩ := it_b ht
  have hFc := q_freeW (hD q18) hS hA
  refine q_mv (va_runV (As := [.ref (d0 12), .int 8]) (rest := []) ⟨hx, hb, hml, hown, hts⟩ (kX9_passRow_r11 l D cI cZ cO d0 H.size q18 8 q19 hq19) (cwV 2 hts gX9_passAll_X9_passRow rfl rfl rfl (by decide +kernel) ⟨Nat.le_of_ble_eq_true rfl, Nat.le_of_ble_eq_true rfl⟩) (q_mV (As := [.ref (d0 12), .int 8]) hE hP (hD q18) (q0 := 0) (ci := 9) rfl rfl) rfl rfl hl.1 rfl (lv_room (Nat.le_of_ble_eq_true rfl)) dX9_passAll_129 ⟨Nat.le_of_ble_eq_true rfl, Nat.le_of_ble_eq_true rfl⟩) hS hFc (fun H locs hP1 hk hS => ?_)
  have hP : va_P D vwCl (wg9 cI cZ d0 q19) H := hP1
  refine lv_aload_n hx hb dX9_passAll_132 rfl (lv_at hl 0 rfl) ?_
  refine lv_aload_n hx hb dX9_passAll_133 rfl (lv_at hl 0 rfl) ?_
  refine va_get (D := D) (ci := 9) (v := .ref (d0 13)) (C := RX9) (T := TX9) (N := 37) hx hb hts hi9 hown hE.1 hP 0 rfl rfl 12 (by decide) hw13 (fun _ h9 => h9) rfl dX9_passAll_134 ?_
  refine lv_bipush (v := 8) hx hb dX9_passAll_137 (by decide) ?_
  obtain ⟨q20, hq20, ht⟩ := it_b ht
  have hFc := q_freeW (hD q19) hS hA
  refine q_mv (va_runV (As := [.ref (d0 13), .int 8]) (rest := []) ⟨hx, hb, hml, hown, hts⟩ (kX9_passRow_r12 l D cI cZ cO d0 H.size q19 8 q20 hq20) (cwV 2 hts gX9_passAll_X9_passRow rfl rfl rfl (by decide +kernel) ⟨Nat.le_of_ble_eq_true rfl, Nat.le_of_ble_eq_true rfl⟩) (q_mV (As := [.ref (d0 13), .int 8]) hE hP (hD q19) (q0 := 0) (ci := 9) rfl rfl) rfl rfl hl.1 rfl (lv_room (Nat.le_of_ble_eq_true rfl)) dX9_passAll_139 ⟨Nat.le_of_ble_eq_true rfl, Nat.le_of_ble_eq_true rfl⟩) hS hFc (fun H locs hP1 hk hS => ?_)
  have hP : va_P D vwCl (wg9 cI cZ d0 q20) H := hP1
  refine lv_aload_n hx hb dX9_passAll_142 rfl (lv_at hl 0 rfl) ?_
  refine lv_aload_n hx hb dX9_passAll_143 rfl (lv_at hl 0 rfl) ?_
  refine va_get (D := D) (ci := 9) (v := .ref (d0 14)) (C := RX9) (T := TX9) (N := 37) hx hb hts hi9 hown hE.1 hP 0 rfl rfl 13 (by decide) hw14 (fun _ h9 => h9) rfl dX9_passAll_144 ?_
  refine lv_bipush (v := 8) hx hb dX9_passAll_147 (by decide) ?_
  obtain ⟨q21, hq21, ht⟩ := it_b ht
  have hFc := q_freeW (hD q20) hS hA
  refine q_mv (va_runV (As := [.ref (d0 14), .int 8]) (rest := []) ⟨hx, hb, hml, hown, hts⟩ (kX9_passRow_r13 l D cI cZ cO d0 H.size q20 8 q21 hq21) (cwV 2 hts gX9_passAll_X9_passRow rfl rfl rfl (by decide +kernel) ⟨Nat.le_of_ble_eq_true rfl, Nat.le_of_ble_eq_true rfl⟩) (q_mV (As := [.ref (d0 14), .int 8]) hE hP (hD q20) (q0 := 0) (ci := 9) rfl rfl) rfl rfl hl.1 rfl (lv_room (Nat.le_of_ble_eq_true rfl)) dX9_passAll_149 ⟨Nat.le_of_ble_eq_true rfl, Nat.le_of_ble_eq_true rfl⟩) hS hFc (fun H locs hP1 hk hS => ?_)
  have hP : va_P D vwCl (wg9 cI cZ d0 q21) H := hP1
  obtain rfl := Option.some.inj ht
  exact W.vret hx hb hr (fun t e1 hW => ⟨⟨(), rfl, trivial, q_at e1 hP⟩, hS.F e1⟩) hS.2.2 dX9_passAll_152
abbrev rmX9_image : Room := { frames := 3, cells := 0, slots := 0, locals := 65 }
set_option maxHeartbeats 4000000 in
set_option maxRecDepth 100000 in
theorem kX9_image (l : Launch) (D : va_G) (cI cZ cO : ClassId) (d0 : Nat → Nat) (sz : Nat) (S0 : St) (p0 : Int32) (tg : Int32 × St) (ht : xX9_image p0 S0 = some tg) : Met l yX9_image wsX9_image rmX9_image (q_PM D cI cZ cO [.ref (d0 0), .int p0] sz (wg9 cI cZ d0 S0)) (va_Qi (fun x (_ : Unit) => x = tg.1 ∧ True) (fun _ t => va_P D vwCl (wg9 cI cZ d0 tg.2) t.heap) (va_A (wg9 cI cZ d0 S0) sz)) 0 0 (va_A (wg9 cI cZ d0 S0) sz) := by
  refine Met.ofW (cc := cX9_image) (maxL := 2) (ret := (some .int)) (by decide) rfl ?_
  intro p e s m args below meth c s₁ B hml hv
  obtain ⟨rfl, hsz, hE, hP, hD0⟩ := hv
  have hx := B.exec
  have hb := B.bytes
  have hr := B.returns
  have hts := atoms_spec (ws := wsX9_image) B.pre
  have hown : s.vm.findClass RX9 = some m.cls := findClass_of_methodNamed B.named
  have hlocks := B.notSynchronized
  have hi9 : ∀ w ∈ u_ws RX9 TX9 37, w ∈ wsX9_image := by decide +kernel
  have hw0 := hts (.fieldLink RX9 345 "HailNamesModel" "keptAt" "I") (by decide +kernel)
  have hw1 := hts (.fieldLink RX9 342 "HailNamesModel" "isWriting" "Z") (by decide +kernel)
  have hw2 := hts (.fieldLink RX9 74 "HailNamesModel" "isKept" "[Z") (by decide +kernel)
  subst hsz
  have hD1 := hD0.self (sz := s.heap.size)
  generalize hAe : va_A (wg9 cI cZ d0 S0) s.heap.size = A at hD1 ⊢
  have hA : ∀ q : Nat, s.heap.size ≤ q → A q := fun q h => by rw [← hAe]; exact Or.inr h
  have hS : va_S A s.heap s.heap [] := va_S.rf
  have hD : ∀ (S0 : St), va_D A (wg9 cI cZ d0 S0) := fun S0 => q_D hD1 rfl
  have hl := lv_entry ([.ref (d0 0), .int p0]) (n := 2) (Nat.le_of_ble_eq_true rfl)
  rw [lg_entry_eq]
  generalize (lg_sl ([.ref (d0 0), .int p0]) ++ List.replicate (2 - (lg_sl ([.ref (d0 0), .int p0])).length) Slot.unset).toArray = ls at hl ⊢
  have hl : lv_has ls 2 [(0, .ref (d0 0)), (1, .int p0)] := hl
  have ht := (xX9_image_s p0 S0).symm.trans ht
  refine lv_iload_n hx hb dX9_image_0 rfl (lv_at hl 1 rfl) ?_
  refine lv_i2l (v := p0.toInt64) hx hb dX9_image_1 rfl ?_
  refine lv_lconst (v := 0) hx hb dX9_image_2 (by decide) ?_
  refine lv_lconst (v := 1) hx hb dX9_image_3 (by decide) ?_
  refine q_ri (va_runS (As := [.long p0.toInt64, .long 0, .long 1]) (rest := []) ⟨hx, hb, hml, hown, hts⟩ (kX9_in l D cI cZ cO p0.toInt64 0 1) (va_cwS 3 hts gX9_image_X9_in rfl rfl rfl (by decide +kernel) ⟨Nat.le_of_ble_eq_true rfl, Nat.le_of_ble_eq_true rfl⟩) (q_rS hE q_nil) rfl rfl hl.1 rfl (lv_room (Nat.le_of_ble_eq_true rfl)) dX9_image_4 ⟨Nat.le_of_ble_eq_true rfl, Nat.le_of_ble_eq_true rfl⟩) (fun b1 => ?_)
  refine lv_if_ne (tgt := 13) hx hb dX9_image_7 (by decide) (fun c2 => ?_) (fun c2 => ?_)
  · have ht := it_n c2 ht
    refine lv_aload_n hx hb dX9_image_13 rfl (lv_at hl 0 rfl) ?_
    refine lv_bipush (v := 90) hx hb dX9_image_14 (by decide) ?_
    refine lv_iload_n hx hb dX9_image_16 rfl (lv_at hl 1 rfl) ?_
    refine lv_imul hx hb dX9_image_17 ?_
    refine va_put (D := D) (ci := 9) (v := .int (90 * p0)) (ty := .int) (C := RX9) (T := TX9) (N := 37) hx hb hts hi9 tyX9 tyX9_ok nmX9 hown hE.1 hP (hD _) hS 0 rfl rfl 35 (by decide) hw0 (fun _ h9 => h9) rfl (by decide +kernel) rfl rfl (Nat.le_of_ble_eq_true rfl) dX9_image_18 (fun H locs hP _ hS => ?_)
    have hP : va_P D vwCl (wg9 cI cZ d0 (q_su S0 35 0 (90 * p0))) H := hP
    obtain ⟨T3, eT3⟩ : ∃ z : St, z = q_su S0 35 0 (90 * p0) := ⟨_, rfl⟩
    rw [← eT3] at hP
    have ht := it_l ht eT3
    refine lv_aload_n hx hb dX9_image_21 rfl (lv_at hl 0 rfl) ?_
    refine lv_iconst (v := 1) hx hb dX9_image_22 (by decide) ?_
    refine va_put (D := D) (ci := 9) (v := .int 1) (ty := .boolean) (C := RX9) (T := TX9) (N := 37) hx hb hts hi9 tyX9 tyX9_ok nmX9 hown hE.1 hP (hD _) hS 0 rfl rfl 36 (by decide) hw1 (fun _ h9 => h9) rfl (by decide +kernel) (by decide +kernel) (by decide +kernel) (Nat.le_of_ble_eq_true rfl) dX9_image_23 (fun H locs hP _ hS => ?_)
    have hP : va_P D vwCl (wg9 cI cZ d0 (q_su T3 36 0 1)) H := hP
    obtain ⟨T4, eT4⟩ : ∃ z : St, z = q_su T3 36 0 1 := ⟨_, rfl⟩
    rw [← eT4] at hP
    have ht := it_l ht eT4
    refine lv_aload_n hx hb dX9_image_26 rfl (lv_at hl 0 rfl) ?_
    obtain ⟨q5, hq5, ht⟩ := it_b ht
    have hFc := q_freeW (hD T4) hS hA
    refine q_mv (va_runV (As := []) (rest := []) ⟨hx, hb, hml, hown, hts⟩ (kX9_passAll l D cI cZ cO d0 H.size T4 q5 hq5) (cwV 0 hts gX9_image_X9_passAll rfl rfl rfl (by decide +kernel) ⟨Nat.le_of_ble_eq_true rfl, Nat.le_of_ble_eq_true rfl⟩) (q_mV (As := []) hE hP (hD T4) (q0 := 0) (ci := 9) rfl rfl) rfl rfl hl.1 rfl (lv_room (Nat.le_of_ble_eq_true rfl)) dX9_image_27 ⟨Nat.le_of_ble_eq_true rfl, Nat.le_of_ble_eq_true rfl⟩) hS hFc (fun H locs hP1 hk hS => ?_)
    have hP : va_P D vwCl (wg9 cI cZ d0 q5) H := hP1
    refine lv_aload_n hx hb dX9_image_30 rfl (lv_at hl 0 rfl) ?_
    refine va_get (D := D) (ci := 9) (v := .ref (d0 35)) (C := RX9) (T := TX9) (N := 37) hx hb hts hi9 hown hE.1 hP 0 rfl rfl 34 (by decide) hw2 (fun _ h9 => h9) rfl dX9_image_31 ?_
    refine lv_iload_n hx hb dX9_image_34 rfl (lv_at hl 1 rfl) ?_
    refine lv_iconst (v := 1) hx hb dX9_image_35 (by decide) ?_
    obtain ⟨g6, ht⟩ := it_g ht
    refine va_zast hx hb hE.1 hP (hD _) hS 22 1 rfl rfl (q_in g6) dX9_image_36 (fun H locs hP _ hS => ?_)
    have hP : va_P D vwCl (wg9 cI cZ d0 (q_su q5 34 p0.toNatClampNeg (vp_nar .boolean 1))) H := hP
    obtain ⟨T7, eT7⟩ : ∃ z : St, z = q_su q5 34 p0.toNatClampNeg (vp_nar .boolean 1) := ⟨_, rfl⟩
    rw [← eT7] at hP
    have ht := it_l ht eT7
    refine lv_iconst (v := 1) hx hb dX9_image_37 (by decide) ?_
    obtain rfl := Option.some.inj ht
    exact W.iret (v := 1) hx hb hr (fun t e1 hW => ⟨⟨_, (), rfl, ⟨rfl, trivial⟩, q_at e1 hP⟩, hS.F e1⟩) hS.2.2 dX9_image_38
  · have ht := it_p c2 ht
    refine lv_bipush (v := (-2)) hx hb dX9_image_10 (by decide) ?_
    obtain rfl := Option.some.inj ht
    exact W.iret (v := (-2)) hx hb hr (fun t e1 hW => ⟨⟨_, (), rfl, ⟨rfl, trivial⟩, q_at e1 hP⟩, hS.F e1⟩) hS.2.2 dX9_image_12
abbrev rmX9_restore : Room := { frames := 3, cells := 0, slots := 0, locals := 65 }
set_option maxHeartbeats 4000000 in
set_option maxRecDepth 100000 in
theorem kX9_restore (l : Launch) (D : va_G) (cI cZ cO : ClassId) (d0 : Nat → Nat) (sz : Nat) (S0 : St) (p0 : Int32) (tg : Int32 × St) (ht : xX9_restore p0 S0 = some tg) : Met l yX9_restore wsX9_restore rmX9_restore (q_PM D cI cZ cO [.ref (d0 0), .int p0] sz (wg9 cI cZ d0 S0)) (va_Qi (fun x (_ : Unit) => x = tg.1 ∧ True) (fun _ t => va_P D vwCl (wg9 cI cZ d0 tg.2) t.heap) (va_A (wg9 cI cZ d0 S0) sz)) 0 0 (va_A (wg9 cI cZ d0 S0) sz) := by
  refine Met.ofW (cc := cX9_restore) (maxL := 2) (ret := (some .int)) (by decide) rfl ?_
  intro p e s m args below meth c s₁ B hml hv
  obtain ⟨rfl, hsz, hE, hP, hD0⟩ := hv
  have hx := B.exec
  have hb := B.bytes
  have hr := B.returns
  have hts := atoms_spec (ws := wsX9_restore) B.pre
  have hown : s.vm.findClass RX9 = some m.cls := findClass_of_methodNamed B.named
  have hlocks := B.notSynchronized
  have hi9 : ∀ w ∈ u_ws RX9 TX9 37, w ∈ wsX9_restore := by decide +kernel
  have hw0 := hts (.fieldLink RX9 74 "HailNamesModel" "isKept" "[Z") (by decide +kernel)
  have hw1 := hts (.fieldLink RX9 345 "HailNamesModel" "keptAt" "I") (by decide +kernel)
  have hw2 := hts (.fieldLink RX9 342 "HailNamesModel" "isWriting" "Z") (by decide +kernel)
  subst hsz
  have hD1 := hD0.self (sz := s.heap.size)
  generalize hAe : va_A (wg9 cI cZ d0 S0) s.heap.size = A at hD1 ⊢
  have hA : ∀ q : Nat, s.heap.size ≤ q → A q := fun q h => by rw [← hAe]; exact Or.inr h
  have hS : va_S A s.heap s.heap [] := va_S.rf
  have hD : ∀ (S0 : St), va_D A (wg9 cI cZ d0 S0) := fun S0 => q_D hD1 rfl
  have hl := lv_entry ([.ref (d0 0), .int p0]) (n := 2) (Nat.le_of_ble_eq_true rfl)
  rw [lg_entry_eq]
  generalize (lg_sl ([.ref (d0 0), .int p0]) ++ List.replicate (2 - (lg_sl ([.ref (d0 0), .int p0])).length) Slot.unset).toArray = ls at hl ⊢
  have hl : lv_has ls 2 [(0, .ref (d0 0)), (1, .int p0)] := hl
  have ht := (xX9_restore_s p0 S0).symm.trans ht
  refine lv_iload_n hx hb dX9_restore_0 rfl (lv_at hl 1 rfl) ?_
  refine lv_i2l (v := p0.toInt64) hx hb dX9_restore_1 rfl ?_
  refine lv_lconst (v := 0) hx hb dX9_restore_2 (by decide) ?_
  refine lv_lconst (v := 1) hx hb dX9_restore_3 (by decide) ?_
  refine q_ri (va_runS (As := [.long p0.toInt64, .long 0, .long 1]) (rest := []) ⟨hx, hb, hml, hown, hts⟩ (kX9_in l D cI cZ cO p0.toInt64 0 1) (va_cwS 3 hts gX9_restore_X9_in rfl rfl rfl (by decide +kernel) ⟨Nat.le_of_ble_eq_true rfl, Nat.le_of_ble_eq_true rfl⟩) (q_rS hE q_nil) rfl rfl hl.1 rfl (lv_room (Nat.le_of_ble_eq_true rfl)) dX9_restore_4 ⟨Nat.le_of_ble_eq_true rfl, Nat.le_of_ble_eq_true rfl⟩) (fun b1 => ?_)
  refine lv_if_ne (tgt := 13) hx hb dX9_restore_7 (by decide) (fun c2 => ?_) (fun c2 => ?_)
  · have ht := it_n c2 ht
    refine lv_aload_n hx hb dX9_restore_13 rfl (lv_at hl 0 rfl) ?_
    refine va_get (D := D) (ci := 9) (v := .ref (d0 35)) (C := RX9) (T := TX9) (N := 37) hx hb hts hi9 hown hE.1 hP 0 rfl rfl 34 (by decide) hw0 (fun _ h9 => h9) rfl dX9_restore_14 ?_
    refine lv_iload_n hx hb dX9_restore_17 rfl (lv_at hl 1 rfl) ?_
    obtain ⟨g3, ht⟩ := it_g ht
    refine va_zald hx hb hE.1 hP 22 1 rfl rfl (q_in g3) dX9_restore_18 ?_
    refine lv_if_ne (tgt := 25) hx hb dX9_restore_19 (by decide) (fun c4 => ?_) (fun c4 => ?_)
    · have ht := it_n c4 ht
      refine lv_aload_n hx hb dX9_restore_25 rfl (lv_at hl 0 rfl) ?_
      refine lv_bipush (v := 90) hx hb dX9_restore_26 (by decide) ?_
      refine lv_iload_n hx hb dX9_restore_28 rfl (lv_at hl 1 rfl) ?_
      refine lv_imul hx hb dX9_restore_29 ?_
      refine va_put (D := D) (ci := 9) (v := .int (90 * p0)) (ty := .int) (C := RX9) (T := TX9) (N := 37) hx hb hts hi9 tyX9 tyX9_ok nmX9 hown hE.1 hP (hD _) hS 0 rfl rfl 35 (by decide) hw1 (fun _ h9 => h9) rfl (by decide +kernel) rfl rfl (Nat.le_of_ble_eq_true rfl) dX9_restore_30 (fun H locs hP _ hS => ?_)
      have hP : va_P D vwCl (wg9 cI cZ d0 (q_su S0 35 0 (90 * p0))) H := hP
      obtain ⟨T5, eT5⟩ : ∃ z : St, z = q_su S0 35 0 (90 * p0) := ⟨_, rfl⟩
      rw [← eT5] at hP
      have ht := it_l ht eT5
      refine lv_aload_n hx hb dX9_restore_33 rfl (lv_at hl 0 rfl) ?_
      refine lv_iconst (v := 0) hx hb dX9_restore_34 (by decide) ?_
      refine va_put (D := D) (ci := 9) (v := .int 0) (ty := .boolean) (C := RX9) (T := TX9) (N := 37) hx hb hts hi9 tyX9 tyX9_ok nmX9 hown hE.1 hP (hD _) hS 0 rfl rfl 36 (by decide) hw2 (fun _ h9 => h9) rfl (by decide +kernel) (by decide +kernel) (by decide +kernel) (Nat.le_of_ble_eq_true rfl) dX9_restore_35 (fun H locs hP _ hS => ?_)
      have hP : va_P D vwCl (wg9 cI cZ d0 (q_su T5 36 0 0)) H := hP
      obtain ⟨T6, eT6⟩ : ∃ z : St, z = q_su T5 36 0 0 := ⟨_, rfl⟩
      rw [← eT6] at hP
      have ht := it_l ht eT6
      refine lv_aload_n hx hb dX9_restore_38 rfl (lv_at hl 0 rfl) ?_
      obtain ⟨q7, hq7, ht⟩ := it_b ht
      have hFc := q_freeW (hD T6) hS hA
      refine q_mv (va_runV (As := []) (rest := []) ⟨hx, hb, hml, hown, hts⟩ (kX9_passAll l D cI cZ cO d0 H.size T6 q7 hq7) (cwV 0 hts gX9_restore_X9_passAll rfl rfl rfl (by decide +kernel) ⟨Nat.le_of_ble_eq_true rfl, Nat.le_of_ble_eq_true rfl⟩) (q_mV (As := []) hE hP (hD T6) (q0 := 0) (ci := 9) rfl rfl) rfl rfl hl.1 rfl (lv_room (Nat.le_of_ble_eq_true rfl)) dX9_restore_39 ⟨Nat.le_of_ble_eq_true rfl, Nat.le_of_ble_eq_true rfl⟩) hS hFc (fun H locs hP1 hk hS => ?_)
      have hP : va_P D vwCl (wg9 cI cZ d0 q7) H := hP1
      refine lv_iconst (v := 1) hx hb dX9_restore_42 (by decide) ?_
      obtain rfl := Option.some.inj ht
      exact W.iret (v := 1) hx hb hr (fun t e1 hW => ⟨⟨_, (), rfl, ⟨rfl, trivial⟩, q_at e1 hP⟩, hS.F e1⟩) hS.2.2 dX9_restore_43
    · have ht := it_p c4 ht
      refine lv_bipush (v := (-3)) hx hb dX9_restore_22 (by decide) ?_
      obtain rfl := Option.some.inj ht
      exact W.iret (v := (-3)) hx hb hr (fun t e1 hW => ⟨⟨_, (), rfl, ⟨rfl, trivial⟩, q_at e1 hP⟩, hS.F e1⟩) hS.2.2 dX9_restore_24
  · have ht := it_p c2 ht
    refine lv_bipush (v := (-2)) hx hb dX9_restore_10 (by decide) ?_
    obtain rfl := Option.some.inj ht
    exact W.iret (v := (-2)) hx hb hr (fun t e1 hW => ⟨⟨_, (), rfl, ⟨rfl, trivial⟩, q_at e1 hP⟩, hS.F e1⟩) hS.2.2 dX9_restore_12
abbrev rmX9_whoMay : Room := { frames := 1, cells := 0, slots := 0, locals := 21 }
set_option maxHeartbeats 4000000 in
set_option maxRecDepth 100000 in
theorem kX9_whoMay (l : Launch) (D : va_G) (cI cZ cO : ClassId) (d0 : Nat → Nat) (S0 : St) (tg : Int32) (ht : xX9_whoMay S0 = some tg) : Met l yX9_whoMay wsX9_whoMay rmX9_whoMay (q_PR D cI cZ cO [.ref (d0 0)] (wg9 cI cZ d0 S0)) (vp_Si (fun x => x = tg ∧ True)) 0 0 (fun _ => False) := by
  refine Met.ofW (cc := cX9_whoMay) (maxL := 3) (ret := (some .int)) (by decide) rfl ?_
  intro p e s m args below meth c s₁ B hml hv
  obtain ⟨rfl, hE, hP⟩ := hv
  have hx := B.exec
  have hb := B.bytes
  have hr := B.returns
  have hts := atoms_spec (ws := wsX9_whoMay) B.pre
  have hown : s.vm.findClass RX9 = some m.cls := findClass_of_methodNamed B.named
  have hlocks := B.notSynchronized
  have hl := lv_entry ([.ref (d0 0)]) (n := 3) (Nat.le_of_ble_eq_true rfl)
  rw [lg_entry_eq]
  generalize (lg_sl ([.ref (d0 0)]) ++ List.replicate (3 - (lg_sl ([.ref (d0 0)])).length) Slot.unset).toArray = ls at hl ⊢
  have hl : lv_has ls 3 [(0, .ref (d0 0))] := hl
  have ht := (xX9_whoMay_s S0).symm.trans ht
  obtain ⟨Q, hQ⟩ : ∃ Q, Q = MQ below (vp_Si (fun x => x = tg ∧ True)) ([.ref (d0 0)] : List Value).toArray s 0 0 (fun _ => False) := ⟨_, rfl⟩
  rw [← hQ]
  have L4 : ∀ (n : Nat) (x1 : Int32) (x2 : Int32) (ls : Array Slot) (_ : lv_has ls 3 [(0, .ref (d0 0)), (1, .int x1), (2, .int x2)]) (_ : xX9_whoMay_h4 S0 n x1 x2 = some tg), W p l e (headSpec wsX9_whoMay rmX9_whoMay).room s m ([.ref (d0 0)] : List Value).toArray below meth c s.heap [] 0 0 Q (F0 m 4 ls []) := by
    intro n
    induction n with
    | zero =>
      intro x1 x2 ls hl ht
      exact it_z ht
    | succ n4 ih4 =>
      intro x1 x2 ls hl ht
      have ht := (xX9_whoMay_h4_s S0 n4 x1 x2).symm.trans ht
      refine lv_iload_n hx hb dX9_whoMay_4 rfl (lv_at hl 2 rfl) ?_
      refine lv_iconst (v := 4) hx hb dX9_whoMay_5 (by decide) ?_
      refine lv_icmp_ge (tgt := 33) hx hb dX9_whoMay_6 (by decide) (fun c1 => ?_) (fun c1 => ?_)
      · have ht := it_p c1 ht
        refine lv_iload_n hx hb dX9_whoMay_33 rfl (lv_at hl 1 rfl) ?_
        subst hQ
        have ht := Option.some.inj ht
        exact W.iret (v := x1) hx hb hr (fun t e1 hW => ⟨_, rfl, ⟨ht, trivial⟩, e1⟩) (fun q h => absurd h List.not_mem_nil) dX9_whoMay_34
      · have ht := it_n c1 ht
        refine lv_iload_n hx hb dX9_whoMay_9 rfl (lv_at hl 1 rfl) ?_
        refine lv_aload_n hx hb dX9_whoMay_10 rfl (lv_at hl 0 rfl) ?_
        refine lv_iload_n hx hb dX9_whoMay_11 rfl (lv_at hl 2 rfl) ?_
        obtain ⟨q2, hq2, ht⟩ := it_b ht
        refine q_ri (va_runV (As := [.int x2]) (rest := [.int x1]) ⟨hx, hb, hml, hown, hts⟩ (kX9_may l D cI cZ cO d0 S0 x2 q2 hq2) (cwV 1 hts gX9_whoMay_X9_may rfl rfl rfl (by decide +kernel) ⟨Nat.le_of_ble_eq_true rfl, Nat.le_of_ble_eq_true rfl⟩) (q_rV (As := [.int x2]) hE hP (q0 := 0) (ci := 9) rfl rfl) rfl rfl hl.1 rfl (lv_room (Nat.le_of_ble_eq_true rfl)) dX9_whoMay_12 ⟨Nat.le_of_ble_eq_true rfl, Nat.le_of_ble_eq_true rfl⟩) (fun b3 => ?_)
        refine lv_if_eq (tgt := 24) hx hb dX9_whoMay_15 (by decide) (fun c4 => ?_) (fun c4 => ?_)
        · have ht := it_p c4 ht
          refine lv_iconst (v := 0) hx hb dX9_whoMay_24 (by decide) ?_
          refine lv_ior hx hb dX9_whoMay_25 ?_
          refine lv_istore_n (lv' := [(1, .int (x1 ||| 0)), (0, .ref (d0 0)), (2, .int x2)]) hx hb dX9_whoMay_26 rfl hl (by decide) rfl (fun ls hl => ?_)
          refine lv_iinc (v := x2 + 1) (lv' := [(2, .int (x2 + 1)), (1, .int (x1 ||| 0)), (0, .ref (d0 0))]) hx hb dX9_whoMay_27 hl (k := 2) rfl rfl (by decide) rfl (fun ls hl => ?_)
          refine lv_goto (tgt := 4) hx hb dX9_whoMay_30 (by decide) ?_
          exact ih4 (x1 ||| 0) (x2 + 1) ls (lv_sub hl [2, 1, 0] rfl) ht
        · have ht := it_n c4 ht
          refine lv_iconst (v := 1) hx hb dX9_whoMay_18 (by decide) ?_
          refine lv_iload_n hx hb dX9_whoMay_19 rfl (lv_at hl 2 rfl) ?_
          refine q_ishl hx hb dX9_whoMay_20 ?_
          refine lv_goto (tgt := 25) hx hb dX9_whoMay_21 (by decide) ?_
          refine lv_ior hx hb dX9_whoMay_25 ?_
          refine lv_istore_n (lv' := [(1, .int (x1 ||| (q_shl 1 x2))), (0, .ref (d0 0)), (2, .int x2)]) hx hb dX9_whoMay_26 rfl hl (by decide) rfl (fun ls hl => ?_)
          refine lv_iinc (v := x2 + 1) (lv' := [(2, .int (x2 + 1)), (1, .int (x1 ||| (q_shl 1 x2))), (0, .ref (d0 0))]) hx hb dX9_whoMay_27 hl (k := 2) rfl rfl (by decide) rfl (fun ls hl => ?_)
          refine lv_goto (tgt := 4) hx hb dX9_whoMay_30 (by decide) ?_
          exact ih4 (x1 ||| (q_shl 1 x2)) (x2 + 1) ls (lv_sub hl [2, 1, 0] rfl) ht
  refine lv_iconst (v := 0) hx hb dX9_whoMay_0 (by decide) ?_
  refine lv_istore_n (lv' := [(1, .int 0), (0, .ref (d0 0))]) hx hb dX9_whoMay_1 rfl hl (by decide) rfl (fun ls hl => ?_)
  refine lv_iconst (v := 0) hx hb dX9_whoMay_2 (by decide) ?_
  refine lv_istore_n (lv' := [(2, .int 0), (1, .int 0), (0, .ref (d0 0))]) hx hb dX9_whoMay_3 rfl hl (by decide) rfl (fun ls hl => ?_)
  exact L4 5000 0 0 ls (lv_sub hl [2, 1, 0] rfl) ht
abbrev rmX9_toldOfPerson : Room := { frames := 2, cells := 0, slots := 0, locals := 45 }
set_option maxHeartbeats 4000000 in
set_option maxRecDepth 100000 in
theorem kX9_toldOfPerson (l : Launch) (D : va_G) (cI cZ cO : ClassId) (d0 : Nat → Nat) (S0 : St) (p0 : Int32) (tg : Int32) (ht : xX9_toldOfPerson S0 p0 = some tg) : Met l yX9_toldOfPerson wsX9_toldOfPerson rmX9_toldOfPerson (q_PR D cI cZ cO [.ref (d0 0), .int p0] (wg9 cI cZ d0 S0)) (vp_Si (fun x => x = tg ∧ True)) 0 0 (fun _ => False) := by
  refine Met.ofW (cc := cX9_toldOfPerson) (maxL := 3) (ret := (some .int)) (by decide) rfl ?_
  intro p e s m args below meth c s₁ B hml hv
  obtain ⟨rfl, hE, hP⟩ := hv
  have hx := B.exec
  have hb := B.bytes
  have hr := B.returns
  have hts := atoms_spec (ws := wsX9_toldOfPerson) B.pre
  have hown : s.vm.findClass RX9 = some m.cls := findClass_of_methodNamed B.named
  have hlocks := B.notSynchronized
  have hl := lv_entry ([.ref (d0 0), .int p0]) (n := 3) (Nat.le_of_ble_eq_true rfl)
  rw [lg_entry_eq]
  generalize (lg_sl ([.ref (d0 0), .int p0]) ++ List.replicate (3 - (lg_sl ([.ref (d0 0), .int p0])).length) Slot.unset).toArray = ls at hl ⊢
  have hl : lv_has ls 3 [(0, .ref (d0 0)), (1, .int p0)] := hl
  have ht := (xX9_toldOfPerson_s S0 p0).symm.trans ht
  refine lv_iload_n hx hb dX9_toldOfPerson_0 rfl (lv_at hl 1 rfl) ?_
  refine lv_bipush (v := 10) hx hb dX9_toldOfPerson_1 (by decide) ?_
  refine q_irem hx hb dX9_toldOfPerson_3 (by decide +kernel) ?_
  refine lv_istore_n (lv' := [(2, .int (q_rem p0 10)), (0, .ref (d0 0)), (1, .int p0)]) hx hb dX9_toldOfPerson_4 rfl hl (by decide) rfl (fun ls hl => ?_)
  refine lv_iload_n hx hb dX9_toldOfPerson_5 rfl (lv_at hl 0 rfl) ?_
  refine q_ri (va_runS (As := [.int (q_rem p0 10)]) (rest := []) ⟨hx, hb, hml, hown, hts⟩ (kX9_isPerson l D cI cZ cO (q_rem p0 10)) (va_cwS 1 hts gX9_toldOfPerson_X9_isPerson rfl rfl rfl (by decide +kernel) ⟨Nat.le_of_ble_eq_true rfl, Nat.le_of_ble_eq_true rfl⟩) (q_rS hE q_nil) rfl rfl hl.1 rfl (lv_room (Nat.le_of_ble_eq_true rfl)) dX9_toldOfPerson_6 ⟨Nat.le_of_ble_eq_true rfl, Nat.le_of_ble_eq_true rfl⟩) (fun b1 => ?_)
  refine lv_if_eq (tgt := 26) hx hb dX9_toldOfPerson_9 (by decide) (fun c2 => ?_) (fun c2 => ?_)
  · have ht := it_p c2 ht
    refine lv_bipush (v := (-2)) hx hb dX9_toldOfPerson_26 (by decide) ?_
    have ht := Option.some.inj ht
    exact W.iret (v := (-2)) hx hb hr (fun t e1 hW => ⟨_, rfl, ⟨ht, trivial⟩, e1⟩) (fun q h => absurd h List.not_mem_nil) dX9_toldOfPerson_28
  · have ht := it_n c2 ht
    refine lv_aload_n hx hb dX9_toldOfPerson_12 rfl (lv_at hl 1 rfl) ?_
    refine lv_iload_n hx hb dX9_toldOfPerson_13 rfl (lv_at hl 0 rfl) ?_
    refine lv_iload_n hx hb dX9_toldOfPerson_14 rfl (lv_at hl 2 rfl) ?_
    refine lv_bipush (v := 10) hx hb dX9_toldOfPerson_15 (by decide) ?_
    refine lv_idiv hx hb dX9_toldOfPerson_17 (by decide +kernel) ?_
    refine lv_iconst (v := 1) hx hb dX9_toldOfPerson_18 (by decide) ?_
    refine lv_isub hx hb dX9_toldOfPerson_19 ?_
    obtain ⟨q3, hq3, ht⟩ := it_b ht
    refine q_ri (va_runV (As := [.int (q_rem p0 10), .int ((p0 / 10) - 1)]) (rest := []) ⟨hx, hb, hml, hown, hts⟩ (kX9_ofPerson l D cI cZ cO d0 S0 (q_rem p0 10) ((p0 / 10) - 1) q3 hq3) (cwV 2 hts gX9_toldOfPerson_X9_ofPerson rfl rfl rfl (by decide +kernel) ⟨Nat.le_of_ble_eq_true rfl, Nat.le_of_ble_eq_true rfl⟩) (q_rV (As := [.int (q_rem p0 10), .int ((p0 / 10) - 1)]) hE hP (q0 := 0) (ci := 9) rfl rfl) rfl rfl hl.1 rfl (lv_room (Nat.le_of_ble_eq_true rfl)) dX9_toldOfPerson_20 ⟨Nat.le_of_ble_eq_true rfl, Nat.le_of_ble_eq_true rfl⟩) (fun b4 => ?_)
    refine lv_goto (tgt := 28) hx hb dX9_toldOfPerson_23 (by decide) ?_
    have ht := Option.some.inj ht
    exact W.iret (v := q3) hx hb hr (fun t e1 hW => ⟨_, rfl, ⟨ht, trivial⟩, e1⟩) (fun q h => absurd h List.not_mem_nil) dX9_toldOfPerson_28
abbrev rmX9_toldOfReader : Room := { frames := 2, cells := 0, slots := 0, locals := 45 }
set_option maxHeartbeats 4000000 in
set_option maxRecDepth 100000 in
theorem kX9_toldOfReader (l : Launch) (D : va_G) (cI cZ cO : ClassId) (d0 : Nat → Nat) (S0 : St) (p0 : Int32) (tg : Int32) (ht : xX9_toldOfReader S0 p0 = some tg) : Met l yX9_toldOfReader wsX9_toldOfReader rmX9_toldOfReader (q_PR D cI cZ cO [.ref (d0 0), .int p0] (wg9 cI cZ d0 S0)) (vp_Si (fun x => x = tg ∧ True)) 0 0 (fun _ => False) := by
  refine Met.ofW (cc := cX9_toldOfReader) (maxL := 3) (ret := (some .int)) (by decide) rfl ?_
  intro p e s m args below meth c s₁ B hml hv
  obtain ⟨rfl, hE, hP⟩ := hv
  have hx := B.exec
  have hb := B.bytes
  have hr := B.returns
  have hts := atoms_spec (ws := wsX9_toldOfReader) B.pre
  have hown : s.vm.findClass RX9 = some m.cls := findClass_of_methodNamed B.named
  have hlocks := B.notSynchronized
  have hi9 : ∀ w ∈ u_ws RX9 TX9 37, w ∈ wsX9_toldOfReader := by decide +kernel
  have hw0 := hts (.fieldLink RX9 31 "HailNamesModel" "hasRead" "[I") (by decide +kernel)
  have hw1 := hts (.fieldLink RX9 28 "HailNamesModel" "stun" "[I") (by decide +kernel)
  have hw2 := hts (.fieldLink RX9 25 "HailNamesModel" "stands" "[I") (by decide +kernel)
  have hl := lv_entry ([.ref (d0 0), .int p0]) (n := 3) (Nat.le_of_ble_eq_true rfl)
  rw [lg_entry_eq]
  generalize (lg_sl ([.ref (d0 0), .int p0]) ++ List.replicate (3 - (lg_sl ([.ref (d0 0), .int p0])).length) Slot.unset).toArray = ls at hl ⊢
  have hl : lv_has ls 3 [(0, .ref (d0 0)), (1, .int p0)] := hl
  have ht := (xX9_toldOfReader_s S0 p0).symm.trans ht
  refine lv_iload_n hx hb dX9_toldOfReader_0 rfl (lv_at hl 1 rfl) ?_
  refine lv_bipush (v := 10) hx hb dX9_toldOfReader_1 (by decide) ?_
  refine q_irem hx hb dX9_toldOfReader_3 (by decide +kernel) ?_
  refine lv_istore_n (lv' := [(2, .int (q_rem p0 10)), (0, .ref (d0 0)), (1, .int p0)]) hx hb dX9_toldOfReader_4 rfl hl (by decide) rfl (fun ls hl => ?_)
  refine lv_iload_n hx hb dX9_toldOfReader_5 rfl (lv_at hl 0 rfl) ?_
  refine q_ri (va_runS (As := [.int (q_rem p0 10)]) (rest := []) ⟨hx, hb, hml, hown, hts⟩ (kX9_isReader l D cI cZ cO (q_rem p0 10)) (va_cwS 1 hts gX9_toldOfReader_X9_isReader rfl rfl rfl (by decide +kernel) ⟨Nat.le_of_ble_eq_true rfl, Nat.le_of_ble_eq_true rfl⟩) (q_rS hE q_nil) rfl rfl hl.1 rfl (lv_room (Nat.le_of_ble_eq_true rfl)) dX9_toldOfReader_6 ⟨Nat.le_of_ble_eq_true rfl, Nat.le_of_ble_eq_true rfl⟩) (fun b1 => ?_)
  refine lv_if_ne (tgt := 15) hx hb dX9_toldOfReader_9 (by decide) (fun c2 => ?_) (fun c2 => ?_)
  · have ht := it_n c2 ht
    refine lv_iload_n hx hb dX9_toldOfReader_15 rfl (lv_at hl 2 rfl) ?_
    refine lv_bipush (v := 70) hx hb dX9_toldOfReader_16 (by decide) ?_
    refine lv_icmp_ge (tgt := 30) hx hb dX9_toldOfReader_18 (by decide) (fun c3 => ?_) (fun c3 => ?_)
    · have ht := it_p c3 ht
      refine lv_iload_n hx hb dX9_toldOfReader_30 rfl (lv_at hl 2 rfl) ?_
      refine lv_bipush (v := 80) hx hb dX9_toldOfReader_31 (by decide) ?_
      refine lv_icmp_ge (tgt := 45) hx hb dX9_toldOfReader_33 (by decide) (fun c4 => ?_) (fun c4 => ?_)
      · have ht := it_p c4 ht
        refine lv_aload_n hx hb dX9_toldOfReader_45 rfl (lv_at hl 1 rfl) ?_
        refine va_get (D := D) (ci := 9) (v := .ref (d0 8)) (C := RX9) (T := TX9) (N := 37) hx hb hts hi9 hown hE.1 hP 0 rfl rfl 7 (by decide) hw0 (fun _ h9 => h9) rfl dX9_toldOfReader_46 ?_
        refine lv_iload_n hx hb dX9_toldOfReader_49 rfl (lv_at hl 0 rfl) ?_
        obtain ⟨g5, ht⟩ := it_g ht
        refine va_iald hx hb hE.1 hP 8 0 rfl rfl (q_in g5) dX9_toldOfReader_50 ?_
        have ht := Option.some.inj ht
        exact W.iret (v := S0 7 (q_rem p0 10).toNatClampNeg) hx hb hr (fun t e1 hW => ⟨_, rfl, ⟨ht, trivial⟩, e1⟩) (fun q h => absurd h List.not_mem_nil) dX9_toldOfReader_51
      · have ht := it_n c4 ht
        refine lv_aload_n hx hb dX9_toldOfReader_36 rfl (lv_at hl 1 rfl) ?_
        refine va_get (D := D) (ci := 9) (v := .ref (d0 7)) (C := RX9) (T := TX9) (N := 37) hx hb hts hi9 hown hE.1 hP 0 rfl rfl 6 (by decide) hw1 (fun _ h9 => h9) rfl dX9_toldOfReader_37 ?_
        refine lv_iload_n hx hb dX9_toldOfReader_40 rfl (lv_at hl 0 rfl) ?_
        obtain ⟨g6, ht⟩ := it_g ht
        refine va_iald hx hb hE.1 hP 7 0 rfl rfl (q_in g6) dX9_toldOfReader_41 ?_
        refine lv_goto (tgt := 51) hx hb dX9_toldOfReader_42 (by decide) ?_
        have ht := Option.some.inj ht
        exact W.iret (v := S0 6 (q_rem p0 10).toNatClampNeg) hx hb hr (fun t e1 hW => ⟨_, rfl, ⟨ht, trivial⟩, e1⟩) (fun q h => absurd h List.not_mem_nil) dX9_toldOfReader_51
    · have ht := it_n c3 ht
      refine lv_aload_n hx hb dX9_toldOfReader_21 rfl (lv_at hl 1 rfl) ?_
      refine va_get (D := D) (ci := 9) (v := .ref (d0 6)) (C := RX9) (T := TX9) (N := 37) hx hb hts hi9 hown hE.1 hP 0 rfl rfl 5 (by decide) hw2 (fun _ h9 => h9) rfl dX9_toldOfReader_22 ?_
      refine lv_iload_n hx hb dX9_toldOfReader_25 rfl (lv_at hl 0 rfl) ?_
      obtain ⟨g7, ht⟩ := it_g ht
      refine va_iald hx hb hE.1 hP 6 0 rfl rfl (q_in g7) dX9_toldOfReader_26 ?_
      refine lv_goto (tgt := 51) hx hb dX9_toldOfReader_27 (by decide) ?_
      have ht := Option.some.inj ht
      exact W.iret (v := S0 5 (q_rem p0 10).toNatClampNeg) hx hb hr (fun t e1 hW => ⟨_, rfl, ⟨ht, trivial⟩, e1⟩) (fun q h => absurd h List.not_mem_nil) dX9_toldOfReader_51
  · have ht := it_p c2 ht
    refine lv_bipush (v := (-2)) hx hb dX9_toldOfReader_12 (by decide) ?_
    have ht := Option.some.inj ht
    exact W.iret (v := (-2)) hx hb hr (fun t e1 hW => ⟨_, rfl, ⟨ht, trivial⟩, e1⟩) (fun q h => absurd h List.not_mem_nil) dX9_toldOfReader_14
abbrev rmX9_toldOfAll : Room := { frames := 2, cells := 0, slots := 0, locals := 43 }
set_option maxHeartbeats 4000000 in
set_option maxRecDepth 100000 in
theorem kX9_toldOfAll (l : Launch) (D : va_G) (cI cZ cO : ClassId) (d0 : Nat → Nat) (S0 : St) (p0 : Int32) (tg : Int32) (ht : xX9_toldOfAll S0 p0 = some tg) : Met l yX9_toldOfAll wsX9_toldOfAll rmX9_toldOfAll (q_PR D cI cZ cO [.ref (d0 0), .int p0] (wg9 cI cZ d0 S0)) (vp_Si (fun x => x = tg ∧ True)) 0 0 (fun _ => False) := by
  refine Met.ofW (cc := cX9_toldOfAll) (maxL := 2) (ret := (some .int)) (by decide) rfl ?_
  intro p e s m args below meth c s₁ B hml hv
  obtain ⟨rfl, hE, hP⟩ := hv
  have hx := B.exec
  have hb := B.bytes
  have hr := B.returns
  have hts := atoms_spec (ws := wsX9_toldOfAll) B.pre
  have hown : s.vm.findClass RX9 = some m.cls := findClass_of_methodNamed B.named
  have hlocks := B.notSynchronized
  have hi9 : ∀ w ∈ u_ws RX9 TX9 37, w ∈ wsX9_toldOfAll := by decide +kernel
  have hw0 := hts (.fieldLink RX9 115 "HailNamesModel" "padMany" "I") (by decide +kernel)
  have hw1 := hts (.fieldLink RX9 156 "HailNamesModel" "seconds" "I") (by decide +kernel)
  have hw2 := hts (.fieldLink RX9 77 "HailNamesModel" "melting" "I") (by decide +kernel)
  have hw3 := hts (.fieldLink RX9 285 "HailNamesModel" "sights" "I") (by decide +kernel)
  have hl := lv_entry ([.ref (d0 0), .int p0]) (n := 2) (Nat.le_of_ble_eq_true rfl)
  rw [lg_entry_eq]
  generalize (lg_sl ([.ref (d0 0), .int p0]) ++ List.replicate (2 - (lg_sl ([.ref (d0 0), .int p0])).length) Slot.unset).toArray = ls at hl ⊢
  have hl : lv_has ls 2 [(0, .ref (d0 0)), (1, .int p0)] := hl
  have ht := (xX9_toldOfAll_s S0 p0).symm.trans ht
  refine lv_iload_n hx hb dX9_toldOfAll_0 rfl (lv_at hl 1 rfl) ?_
  by_cases c1 : p0 = 0
  · have ht := it_p c1 ht
    refine lv_tableIn (tgt := 40) hx hb dX9_toldOfAll_1 (by rw [c1]; decide) (by rw [c1]; decide) (by rw [c1]; rfl) (by decide) ?_
    refine lv_aload_n hx hb dX9_toldOfAll_40 rfl (lv_at hl 0 rfl) ?_
    refine va_get (D := D) (ci := 9) (v := .int (S0 16 0)) (C := RX9) (T := TX9) (N := 37) hx hb hts hi9 hown hE.1 hP 0 rfl rfl 16 (by decide) hw0 (fun _ h9 => h9) rfl dX9_toldOfAll_41 ?_
    have ht := Option.some.inj ht
    exact W.iret (v := S0 16 0) hx hb hr (fun t e1 hW => ⟨_, rfl, ⟨ht, trivial⟩, e1⟩) (fun q h => absurd h List.not_mem_nil) dX9_toldOfAll_44
  have ht := it_n c1 ht
  by_cases c2 : p0 = 1
  · have ht := it_p c2 ht
    refine lv_tableIn (tgt := 45) hx hb dX9_toldOfAll_1 (by rw [c2]; decide) (by rw [c2]; decide) (by rw [c2]; rfl) (by decide) ?_
    refine lv_aload_n hx hb dX9_toldOfAll_45 rfl (lv_at hl 0 rfl) ?_
    refine va_get (D := D) (ci := 9) (v := .int (S0 10 0)) (C := RX9) (T := TX9) (N := 37) hx hb hts hi9 hown hE.1 hP 0 rfl rfl 10 (by decide) hw1 (fun _ h9 => h9) rfl dX9_toldOfAll_46 ?_
    have ht := Option.some.inj ht
    exact W.iret (v := S0 10 0) hx hb hr (fun t e1 hW => ⟨_, rfl, ⟨ht, trivial⟩, e1⟩) (fun q h => absurd h List.not_mem_nil) dX9_toldOfAll_49
  have ht := it_n c2 ht
  by_cases c3 : p0 = 2
  · have ht := it_p c3 ht
    refine lv_tableIn (tgt := 50) hx hb dX9_toldOfAll_1 (by rw [c3]; decide) (by rw [c3]; decide) (by rw [c3]; rfl) (by decide) ?_
    refine lv_aload_n hx hb dX9_toldOfAll_50 rfl (lv_at hl 0 rfl) ?_
    refine va_get (D := D) (ci := 9) (v := .int (S0 9 0)) (C := RX9) (T := TX9) (N := 37) hx hb hts hi9 hown hE.1 hP 0 rfl rfl 9 (by decide) hw2 (fun _ h9 => h9) rfl dX9_toldOfAll_51 ?_
    have ht := Option.some.inj ht
    exact W.iret (v := S0 9 0) hx hb hr (fun t e1 hW => ⟨_, rfl, ⟨ht, trivial⟩, e1⟩) (fun q h => absurd h List.not_mem_nil) dX9_toldOfAll_54
  have ht := it_n c3 ht
  by_cases c4 : p0 = 3
  · have ht := it_p c4 ht
    refine lv_tableIn (tgt := 55) hx hb dX9_toldOfAll_1 (by rw [c4]; decide) (by rw [c4]; decide) (by rw [c4]; rfl) (by decide) ?_
    refine lv_aload_n hx hb dX9_toldOfAll_55 rfl (lv_at hl 0 rfl) ?_
    obtain ⟨q5, hq5, ht⟩ := it_b ht
    refine q_ri (va_runV (As := []) (rest := []) ⟨hx, hb, hml, hown, hts⟩ (kX9_lying l D cI cZ cO d0 S0 q5 hq5) (cwV 0 hts gX9_toldOfAll_X9_lying rfl rfl rfl (by decide +kernel) ⟨Nat.le_of_ble_eq_true rfl, Nat.le_of_ble_eq_true rfl⟩) (q_rV (As := []) hE hP (q0 := 0) (ci := 9) rfl rfl) rfl rfl hl.1 rfl (lv_room (Nat.le_of_ble_eq_true rfl)) dX9_toldOfAll_56 ⟨Nat.le_of_ble_eq_true rfl, Nat.le_of_ble_eq_true rfl⟩) (fun b6 => ?_)
    have ht := Option.some.inj ht
    exact W.iret (v := q5) hx hb hr (fun t e1 hW => ⟨_, rfl, ⟨ht, trivial⟩, e1⟩) (fun q h => absurd h List.not_mem_nil) dX9_toldOfAll_59
  have ht := it_n c4 ht
  by_cases c7 : p0 = 4
  · have ht := it_p c7 ht
    refine lv_tableIn (tgt := 60) hx hb dX9_toldOfAll_1 (by rw [c7]; decide) (by rw [c7]; decide) (by rw [c7]; rfl) (by decide) ?_
    refine lv_aload_n hx hb dX9_toldOfAll_60 rfl (lv_at hl 0 rfl) ?_
    obtain ⟨q8, hq8, ht⟩ := it_b ht
    refine q_ri (va_runV (As := []) (rest := []) ⟨hx, hb, hml, hown, hts⟩ (kX9_whoMay l D cI cZ cO d0 S0 q8 hq8) (cwV 0 hts gX9_toldOfAll_X9_whoMay rfl rfl rfl (by decide +kernel) ⟨Nat.le_of_ble_eq_true rfl, Nat.le_of_ble_eq_true rfl⟩) (q_rV (As := []) hE hP (q0 := 0) (ci := 9) rfl rfl) rfl rfl hl.1 rfl (lv_room (Nat.le_of_ble_eq_true rfl)) dX9_toldOfAll_61 ⟨Nat.le_of_ble_eq_true rfl, Nat.le_of_ble_eq_true rfl⟩) (fun b9 => ?_)
    have ht := Option.some.inj ht
    exact W.iret (v := q8) hx hb hr (fun t e1 hW => ⟨_, rfl, ⟨ht, trivial⟩, e1⟩) (fun q h => absurd h List.not_mem_nil) dX9_toldOfAll_64
  have ht := it_n c7 ht
  by_cases c10 : p0 = 5
  · have ht := it_p c10 ht
    refine lv_tableIn (tgt := 65) hx hb dX9_toldOfAll_1 (by rw [c10]; decide) (by rw [c10]; decide) (by rw [c10]; rfl) (by decide) ?_
    refine lv_aload_n hx hb dX9_toldOfAll_65 rfl (lv_at hl 0 rfl) ?_
    refine va_get (D := D) (ci := 9) (v := .int (S0 14 0)) (C := RX9) (T := TX9) (N := 37) hx hb hts hi9 hown hE.1 hP 0 rfl rfl 14 (by decide) hw3 (fun _ h9 => h9) rfl dX9_toldOfAll_66 ?_
    have ht := Option.some.inj ht
    exact W.iret (v := S0 14 0) hx hb hr (fun t e1 hW => ⟨_, rfl, ⟨ht, trivial⟩, e1⟩) (fun q h => absurd h List.not_mem_nil) dX9_toldOfAll_69
  have ht := it_n c10 ht
  refine lv_tableOut (tgt := 70) hx hb dX9_toldOfAll_1 (by have n0 := lv_neT c1 (show (0 : Int32).toInt = 0 by decide); have n1 := lv_neT c2 (show (1 : Int32).toInt = 1 by decide); have n2 := lv_neT c3 (show (2 : Int32).toInt = 2 by decide); have n3 := lv_neT c4 (show (3 : Int32).toInt = 3 by decide); have n4 := lv_neT c7 (show (4 : Int32).toInt = 4 by decide); have n5 := lv_neT c10 (show (5 : Int32).toInt = 5 by decide); omega) (by decide) ?_
  refine lv_bipush (v := (-2)) hx hb dX9_toldOfAll_70 (by decide) ?_
  have ht := Option.some.inj ht
  exact W.iret (v := (-2)) hx hb hr (fun t e1 hW => ⟨_, rfl, ⟨ht, trivial⟩, e1⟩) (fun q h => absurd h List.not_mem_nil) dX9_toldOfAll_72
abbrev rmX9_told : Room := { frames := 3, cells := 0, slots := 0, locals := 67 }
set_option maxHeartbeats 4000000 in
set_option maxRecDepth 100000 in
theorem kX9_told (l : Launch) (D : va_G) (cI cZ cO : ClassId) (d0 : Nat → Nat) (S0 : St) (p0 : Int32) (tg : Int32) (ht : xX9_told S0 p0 = some tg) : Met l yX9_told wsX9_told rmX9_told (q_PR D cI cZ cO [.ref (d0 0), .int p0] (wg9 cI cZ d0 S0)) (vp_Si (fun x => x = tg ∧ True)) 0 0 (fun _ => False) := by
  refine Met.ofW (cc := cX9_told) (maxL := 2) (ret := (some .int)) (by decide) rfl ?_
  intro p e s m args below meth c s₁ B hml hv
  obtain ⟨rfl, hE, hP⟩ := hv
  have hx := B.exec
  have hb := B.bytes
  have hr := B.returns
  have hts := atoms_spec (ws := wsX9_told) B.pre
  have hown : s.vm.findClass RX9 = some m.cls := findClass_of_methodNamed B.named
  have hlocks := B.notSynchronized
  have hw0 := hts (.constantLong RX9 360 (10)) (by decide +kernel)
  have hw1 := hts (.constantLong RX9 362 (59)) (by decide +kernel)
  have hw2 := hts (.constantLong RX9 367 (60)) (by decide +kernel)
  have hw3 := hts (.constantLong RX9 369 (89)) (by decide +kernel)
  have hl := lv_entry ([.ref (d0 0), .int p0]) (n := 2) (Nat.le_of_ble_eq_true rfl)
  rw [lg_entry_eq]
  generalize (lg_sl ([.ref (d0 0), .int p0]) ++ List.replicate (2 - (lg_sl ([.ref (d0 0), .int p0])).length) Slot.unset).toArray = ls at hl ⊢
  have hl : lv_has ls 2 [(0, .ref (d0 0)), (1, .int p0)] := hl
  have ht := (xX9_told_s S0 p0).symm.trans ht
  refine lv_iload_n hx hb dX9_told_0 rfl (lv_at hl 1 rfl) ?_
  refine lv_i2l (v := p0.toInt64) hx hb dX9_told_1 rfl ?_
  refine lv_ldc2 hx hb hown hw0 dX9_told_2 ?_
  refine lv_ldc2 hx hb hown hw1 dX9_told_5 ?_
  refine q_ri (va_runS (As := [.long p0.toInt64, .long 10, .long 59]) (rest := []) ⟨hx, hb, hml, hown, hts⟩ (kX9_in l D cI cZ cO p0.toInt64 10 59) (va_cwS 3 hts gX9_told_X9_in rfl rfl rfl (by decide +kernel) ⟨Nat.le_of_ble_eq_true rfl, Nat.le_of_ble_eq_true rfl⟩) (q_rS hE q_nil) rfl rfl hl.1 rfl (lv_room (Nat.le_of_ble_eq_true rfl)) dX9_told_8 ⟨Nat.le_of_ble_eq_true rfl, Nat.le_of_ble_eq_true rfl⟩) (fun b1 => ?_)
  refine lv_if_eq (tgt := 20) hx hb dX9_told_11 (by decide) (fun c2 => ?_) (fun c2 => ?_)
  · have ht := it_p c2 ht
    refine lv_iload_n hx hb dX9_told_20 rfl (lv_at hl 1 rfl) ?_
    refine lv_i2l (v := p0.toInt64) hx hb dX9_told_21 rfl ?_
    refine lv_ldc2 hx hb hown hw2 dX9_told_22 ?_
    refine lv_ldc2 hx hb hown hw3 dX9_told_25 ?_
    refine q_ri (va_runS (As := [.long p0.toInt64, .long 60, .long 89]) (rest := []) ⟨hx, hb, hml, hown, hts⟩ (kX9_in l D cI cZ cO p0.toInt64 60 89) (va_cwS 3 hts gX9_told_X9_in rfl rfl rfl (by decide +kernel) ⟨Nat.le_of_ble_eq_true rfl, Nat.le_of_ble_eq_true rfl⟩) (q_rS hE q_nil) rfl rfl hl.1 rfl (lv_room (Nat.le_of_ble_eq_true rfl)) dX9_told_28 ⟨Nat.le_of_ble_eq_true rfl, Nat.le_of_ble_eq_true rfl⟩) (fun b3 => ?_)
    refine lv_if_eq (tgt := 42) hx hb dX9_told_31 (by decide) (fun c4 => ?_) (fun c4 => ?_)
    · have ht := it_p c4 ht
      refine lv_aload_n hx hb dX9_told_42 rfl (lv_at hl 0 rfl) ?_
      refine lv_iload_n hx hb dX9_told_43 rfl (lv_at hl 1 rfl) ?_
      obtain ⟨q5, hq5, ht⟩ := it_b ht
      refine q_ri (va_runV (As := [.int p0]) (rest := []) ⟨hx, hb, hml, hown, hts⟩ (kX9_toldOfAll l D cI cZ cO d0 S0 p0 q5 hq5) (cwV 1 hts gX9_told_X9_toldOfAll rfl rfl rfl (by decide +kernel) ⟨Nat.le_of_ble_eq_true rfl, Nat.le_of_ble_eq_true rfl⟩) (q_rV (As := [.int p0]) hE hP (q0 := 0) (ci := 9) rfl rfl) rfl rfl hl.1 rfl (lv_room (Nat.le_of_ble_eq_true rfl)) dX9_told_44 ⟨Nat.le_of_ble_eq_true rfl, Nat.le_of_ble_eq_true rfl⟩) (fun b6 => ?_)
      have ht := Option.some.inj ht
      exact W.iret (v := q5) hx hb hr (fun t e1 hW => ⟨_, rfl, ⟨ht, trivial⟩, e1⟩) (fun q h => absurd h List.not_mem_nil) dX9_told_47
    · have ht := it_n c4 ht
      refine lv_aload_n hx hb dX9_told_34 rfl (lv_at hl 0 rfl) ?_
      refine lv_iload_n hx hb dX9_told_35 rfl (lv_at hl 1 rfl) ?_
      obtain ⟨q7, hq7, ht⟩ := it_b ht
      refine q_ri (va_runV (As := [.int p0]) (rest := []) ⟨hx, hb, hml, hown, hts⟩ (kX9_toldOfReader l D cI cZ cO d0 S0 p0 q7 hq7) (cwV 1 hts gX9_told_X9_toldOfReader rfl rfl rfl (by decide +kernel) ⟨Nat.le_of_ble_eq_true rfl, Nat.le_of_ble_eq_true rfl⟩) (q_rV (As := [.int p0]) hE hP (q0 := 0) (ci := 9) rfl rfl) rfl rfl hl.1 rfl (lv_room (Nat.le_of_ble_eq_true rfl)) dX9_told_36 ⟨Nat.le_of_ble_eq_true rfl, Nat.le_of_ble_eq_true rfl⟩) (fun b8 => ?_)
      refine lv_goto (tgt := 47) hx hb dX9_told_39 (by decide) ?_
      have ht := Option.some.inj ht
      exact W.iret (v := q7) hx hb hr (fun t e1 hW => ⟨_, rfl, ⟨ht, trivial⟩, e1⟩) (fun q h => absurd h List.not_mem_nil) dX9_told_47
  · have ht := it_n c2 ht
    refine lv_aload_n hx hb dX9_told_14 rfl (lv_at hl 0 rfl) ?_
    refine lv_iload_n hx hb dX9_told_15 rfl (lv_at hl 1 rfl) ?_
    obtain ⟨q9, hq9, ht⟩ := it_b ht
    refine q_ri (va_runV (As := [.int p0]) (rest := []) ⟨hx, hb, hml, hown, hts⟩ (kX9_toldOfPerson l D cI cZ cO d0 S0 p0 q9 hq9) (cwV 1 hts gX9_told_X9_toldOfPerson rfl rfl rfl (by decide +kernel) ⟨Nat.le_of_ble_eq_true rfl, Nat.le_of_ble_eq_true rfl⟩) (q_rV (As := [.int p0]) hE hP (q0 := 0) (ci := 9) rfl rfl) rfl rfl hl.1 rfl (lv_room (Nat.le_of_ble_eq_true rfl)) dX9_told_16 ⟨Nat.le_of_ble_eq_true rfl, Nat.le_of_ble_eq_true rfl⟩) (fun b10 => ?_)
    have ht := Option.some.inj ht
    exact W.iret (v := q9) hx hb hr (fun t e1 hW => ⟨_, rfl, ⟨ht, trivial⟩, e1⟩) (fun q h => absurd h List.not_mem_nil) dX9_told_19
