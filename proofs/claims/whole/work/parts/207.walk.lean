abbrev rmX9_near : Room := { frames := 1, cells := 0, slots := 0, locals := 21 }
set_option maxHeartbeats 4000000 in
set_option maxRecDepth 100000 in
theorem kX9_near (l : Launch) (D : va_G) (cI cZ cO : ClassId) (p0 : Int32) (p1 : Int32) (tg : Int32) (ht : xX9_near p0 p1 = some tg) : Met l yX9_near wsX9_near rmX9_near (q_PR D cI cZ cO [.int p0, .int p1] ([] : va_W)) (vp_Si (fun x => x = tg ∧ True)) 0 0 (fun _ => False) := by
  refine Met.ofW (cc := cX9_near) (maxL := 4) (ret := (some .int)) (by decide) rfl ?_
  intro p e s m args below meth c s₁ B hml hv
  obtain ⟨rfl, hE, hP⟩ := hv
  have hx := B.exec
  have hb := B.bytes
  have hr := B.returns
  have hts := atoms_spec (ws := wsX9_near) B.pre
  have hown : s.vm.findClass RX9 = some m.cls := findClass_of_methodNamed B.named
  have hlocks := B.notSynchronized
  have hl := lv_entry ([.int p0, .int p1]) (n := 4) (Nat.le_of_ble_eq_true rfl)
  rw [lg_entry_eq]
  generalize (lg_sl ([.int p0, .int p1]) ++ List.replicate (4 - (lg_sl ([.int p0, .int p1])).length) Slot.unset).toArray = ls at hl ⊢
  have hl : lv_has ls 4 [(0, .int p0), (1, .int p1)] := hl
  have ht := (xX9_near_s p0 p1).symm.trans ht
  obtain ⟨Q, hQ⟩ : ∃ Q, Q = MQ below (vp_Si (fun x => x = tg ∧ True)) ([.int p0, .int p1] : List Value).toArray s 0 0 (fun _ => False) := ⟨_, rfl⟩
  rw [← hQ]
  have L4 : ∀ (n : Nat) (x2 : Int32) (x3 : Int32) (ls : Array Slot) (_ : lv_has ls 4 [(0, .int p0), (1, .int p1), (2, .int x2), (3, .int x3)]) (_ : xX9_near_h4 p0 p1 n x2 x3 = some tg), W p l e (headSpec wsX9_near rmX9_near).room s m ([.int p0, .int p1] : List Value).toArray below meth c s.heap [] 0 0 Q (F0 m 4 ls []) := by
    intro n
    induction n with
    | zero =>
      intro x2 x3 ls hl ht
      exact it_z ht
    | succ n4 ih4 =>
      intro x2 x3 ls hl ht
      have ht := (xX9_near_h4_s p0 p1 n4 x2 x3).symm.trans ht
      refine lv_iload_n hx hb dX9_near_4 rfl (lv_at hl 3 rfl) ?_
      refine lv_bipush (v := 12) hx hb dX9_near_5 (by decide) ?_
      refine lv_icmp_ge (tgt := 35) hx hb dX9_near_7 (by decide) (fun c1 => ?_) (fun c1 => ?_)
      · have ht := it_p c1 ht
        refine lv_iload_n hx hb dX9_near_35 rfl (lv_at hl 2 rfl) ?_
        subst hQ
        have ht := Option.some.inj ht
        exact W.iret (v := x2) hx hb hr (fun t e1 hW => ⟨_, rfl, ⟨ht, trivial⟩, e1⟩) (fun q h => absurd h List.not_mem_nil) dX9_near_36
      · have ht := it_n c1 ht
        refine lv_iload_n hx hb dX9_near_10 rfl (lv_at hl 2 rfl) ?_
        refine lv_iload_n hx hb dX9_near_11 rfl (lv_at hl 0 rfl) ?_
        refine lv_iload_n hx hb dX9_near_12 rfl (lv_at hl 3 rfl) ?_
        refine q_ri (va_runS (As := [.int p0, .int x3]) (rest := [.int x2]) ⟨hx, hb, hml, hown, hts⟩ (kX9_apart l D cI cZ cO p0 x3) (va_cwS 2 hts gX9_near_X9_apart rfl rfl rfl (by decide +kernel) ⟨Nat.le_of_ble_eq_true rfl, Nat.le_of_ble_eq_true rfl⟩) (q_rS hE q_nil) rfl rfl hl.1 rfl (lv_room (Nat.le_of_ble_eq_true rfl)) dX9_near_13 ⟨Nat.le_of_ble_eq_true rfl, Nat.le_of_ble_eq_true rfl⟩) (fun b2 => ?_)
        refine lv_iload_n hx hb dX9_near_16 rfl (lv_at hl 1 rfl) ?_
        refine lv_icmp_gt (tgt := 26) hx hb dX9_near_17 (by decide) (fun c3 => ?_) (fun c3 => ?_)
        · have ht := it_p c3 ht
          refine lv_iconst (v := 0) hx hb dX9_near_26 (by decide) ?_
          refine lv_ior hx hb dX9_near_27 ?_
          refine lv_istore_n (lv' := [(2, .int (x2 ||| 0)), (0, .int p0), (1, .int p1), (3, .int x3)]) hx hb dX9_near_28 rfl hl (by decide) rfl (fun ls hl => ?_)
          refine lv_iinc (v := x3 + 1) (lv' := [(3, .int (x3 + 1)), (2, .int (x2 ||| 0)), (0, .int p0), (1, .int p1)]) hx hb dX9_near_29 hl (k := 3) rfl rfl (by decide) rfl (fun ls hl => ?_)
          refine lv_goto (tgt := 4) hx hb dX9_near_32 (by decide) ?_
          exact ih4 (x2 ||| 0) (x3 + 1) ls (lv_sub hl [2, 3, 1, 0] rfl) ht
        · have ht := it_n c3 ht
          refine lv_iconst (v := 1) hx hb dX9_near_20 (by decide) ?_
          refine lv_iload_n hx hb dX9_near_21 rfl (lv_at hl 3 rfl) ?_
          refine q_ishl hx hb dX9_near_22 ?_
          refine lv_goto (tgt := 27) hx hb dX9_near_23 (by decide) ?_
          refine lv_ior hx hb dX9_near_27 ?_
          refine lv_istore_n (lv' := [(2, .int (x2 ||| (q_shl 1 x3))), (0, .int p0), (1, .int p1), (3, .int x3)]) hx hb dX9_near_28 rfl hl (by decide) rfl (fun ls hl => ?_)
          refine lv_iinc (v := x3 + 1) (lv' := [(3, .int (x3 + 1)), (2, .int (x2 ||| (q_shl 1 x3))), (0, .int p0), (1, .int p1)]) hx hb dX9_near_29 hl (k := 3) rfl rfl (by decide) rfl (fun ls hl => ?_)
          refine lv_goto (tgt := 4) hx hb dX9_near_32 (by decide) ?_
          exact ih4 (x2 ||| (q_shl 1 x3)) (x3 + 1) ls (lv_sub hl [2, 3, 1, 0] rfl) ht
  refine lv_iconst (v := 0) hx hb dX9_near_0 (by decide) ?_
  refine lv_istore_n (lv' := [(2, .int 0), (0, .int p0), (1, .int p1)]) hx hb dX9_near_1 rfl hl (by decide) rfl (fun ls hl => ?_)
  refine lv_iconst (v := 0) hx hb dX9_near_2 (by decide) ?_
  refine lv_istore_n (lv' := [(3, .int 0), (2, .int 0), (0, .int p0), (1, .int p1)]) hx hb dX9_near_3 rfl hl (by decide) rfl (fun ls hl => ?_)
  exact L4 5000 0 0 ls (lv_sub hl [2, 3, 1, 0] rfl) ht
abbrev rmX9_nearAll : Room := { frames := 2, cells := 0, slots := 0, locals := 44 }
set_option maxHeartbeats 4000000 in
set_option maxRecDepth 100000 in
theorem kX9_nearAll (l : Launch) (D : va_G) (cI cZ cO : ClassId) (p0 : Int32) (p1 : Int32) (tg : Int32) (ht : xX9_nearAll p0 p1 = some tg) : Met l yX9_nearAll wsX9_nearAll rmX9_nearAll (q_PR D cI cZ cO [.int p0, .int p1] ([] : va_W)) (vp_Si (fun x => x = tg ∧ True)) 0 0 (fun _ => False) := by
  refine Met.ofW (cc := cX9_nearAll) (maxL := 4) (ret := (some .int)) (by decide) rfl ?_
  intro p e s m args below meth c s₁ B hml hv
  obtain ⟨rfl, hE, hP⟩ := hv
  have hx := B.exec
  have hb := B.bytes
  have hr := B.returns
  have hts := atoms_spec (ws := wsX9_nearAll) B.pre
  have hown : s.vm.findClass RX9 = some m.cls := findClass_of_methodNamed B.named
  have hlocks := B.notSynchronized
  have hl := lv_entry ([.int p0, .int p1]) (n := 4) (Nat.le_of_ble_eq_true rfl)
  rw [lg_entry_eq]
  generalize (lg_sl ([.int p0, .int p1]) ++ List.replicate (4 - (lg_sl ([.int p0, .int p1])).length) Slot.unset).toArray = ls at hl ⊢
  have hl : lv_has ls 4 [(0, .int p0), (1, .int p1)] := hl
  have ht := (xX9_nearAll_s p0 p1).symm.trans ht
  obtain ⟨Q, hQ⟩ : ∃ Q, Q = MQ below (vp_Si (fun x => x = tg ∧ True)) ([.int p0, .int p1] : List Value).toArray s 0 0 (fun _ => False) := ⟨_, rfl⟩
  rw [← hQ]
  have L4 : ∀ (n : Nat) (x2 : Int32) (x3 : Int32) (ls : Array Slot) (_ : lv_has ls 4 [(0, .int p0), (1, .int p1), (2, .int x2), (3, .int x3)]) (_ : xX9_nearAll_h4 p0 p1 n x2 x3 = some tg), W p l e (headSpec wsX9_nearAll rmX9_nearAll).room s m ([.int p0, .int p1] : List Value).toArray below meth c s.heap [] 0 0 Q (F0 m 4 ls []) := by
    intro n
    induction n with
    | zero =>
      intro x2 x3 ls hl ht
      exact it_z ht
    | succ n4 ih4 =>
      intro x2 x3 ls hl ht
      have ht := (xX9_nearAll_h4_s p0 p1 n4 x2 x3).symm.trans ht
      refine lv_iload_n hx hb dX9_nearAll_4 rfl (lv_at hl 3 rfl) ?_
      refine lv_bipush (v := 12) hx hb dX9_nearAll_5 (by decide) ?_
      refine lv_icmp_ge (tgt := 36) hx hb dX9_nearAll_7 (by decide) (fun c1 => ?_) (fun c1 => ?_)
      · have ht := it_p c1 ht
        refine lv_iload_n hx hb dX9_nearAll_36 rfl (lv_at hl 2 rfl) ?_
        subst hQ
        have ht := Option.some.inj ht
        exact W.iret (v := x2) hx hb hr (fun t e1 hW => ⟨_, rfl, ⟨ht, trivial⟩, e1⟩) (fun q h => absurd h List.not_mem_nil) dX9_nearAll_37
      · have ht := it_n c1 ht
        refine lv_iload_n hx hb dX9_nearAll_10 rfl (lv_at hl 2 rfl) ?_
        refine lv_iload_n hx hb dX9_nearAll_11 rfl (lv_at hl 0 rfl) ?_
        refine lv_iload_n hx hb dX9_nearAll_12 rfl (lv_at hl 3 rfl) ?_
        refine q_ri (va_runS (As := [.int p0, .int x3]) (rest := [.int x2]) ⟨hx, hb, hml, hown, hts⟩ (kX9_has l D cI cZ cO p0 x3) (va_cwS 2 hts gX9_nearAll_X9_has rfl rfl rfl (by decide +kernel) ⟨Nat.le_of_ble_eq_true rfl, Nat.le_of_ble_eq_true rfl⟩) (q_rS hE q_nil) rfl rfl hl.1 rfl (lv_room (Nat.le_of_ble_eq_true rfl)) dX9_nearAll_13 ⟨Nat.le_of_ble_eq_true rfl, Nat.le_of_ble_eq_true rfl⟩) (fun b2 => ?_)
        refine lv_if_eq (tgt := 27) hx hb dX9_nearAll_16 (by decide) (fun c3 => ?_) (fun c3 => ?_)
        · have ht := it_p c3 ht
          refine lv_iconst (v := 0) hx hb dX9_nearAll_27 (by decide) ?_
          refine lv_ior hx hb dX9_nearAll_28 ?_
          refine lv_istore_n (lv' := [(2, .int (x2 ||| 0)), (0, .int p0), (1, .int p1), (3, .int x3)]) hx hb dX9_nearAll_29 rfl hl (by decide) rfl (fun ls hl => ?_)
          refine lv_iinc (v := x3 + 1) (lv' := [(3, .int (x3 + 1)), (2, .int (x2 ||| 0)), (0, .int p0), (1, .int p1)]) hx hb dX9_nearAll_30 hl (k := 3) rfl rfl (by decide) rfl (fun ls hl => ?_)
          refine lv_goto (tgt := 4) hx hb dX9_nearAll_33 (by decide) ?_
          exact ih4 (x2 ||| 0) (x3 + 1) ls (lv_sub hl [2, 3, 1, 0] rfl) ht
        · have ht := it_n c3 ht
          refine lv_iload_n hx hb dX9_nearAll_19 rfl (lv_at hl 3 rfl) ?_
          refine lv_iload_n hx hb dX9_nearAll_20 rfl (lv_at hl 1 rfl) ?_
          obtain ⟨q4, hq4, ht⟩ := it_b ht
          refine q_ri (va_runS (As := [.int x3, .int p1]) (rest := [.int x2]) ⟨hx, hb, hml, hown, hts⟩ (kX9_near l D cI cZ cO x3 p1 q4 hq4) (va_cwS 2 hts gX9_nearAll_X9_near rfl rfl rfl (by decide +kernel) ⟨Nat.le_of_ble_eq_true rfl, Nat.le_of_ble_eq_true rfl⟩) (q_rS hE q_nil) rfl rfl hl.1 rfl (lv_room (Nat.le_of_ble_eq_true rfl)) dX9_nearAll_21 ⟨Nat.le_of_ble_eq_true rfl, Nat.le_of_ble_eq_true rfl⟩) (fun b5 => ?_)
          refine lv_goto (tgt := 28) hx hb dX9_nearAll_24 (by decide) ?_
          refine lv_ior hx hb dX9_nearAll_28 ?_
          refine lv_istore_n (lv' := [(2, .int (x2 ||| q4)), (0, .int p0), (1, .int p1), (3, .int x3)]) hx hb dX9_nearAll_29 rfl hl (by decide) rfl (fun ls hl => ?_)
          refine lv_iinc (v := x3 + 1) (lv' := [(3, .int (x3 + 1)), (2, .int (x2 ||| q4)), (0, .int p0), (1, .int p1)]) hx hb dX9_nearAll_30 hl (k := 3) rfl rfl (by decide) rfl (fun ls hl => ?_)
          refine lv_goto (tgt := 4) hx hb dX9_nearAll_33 (by decide) ?_
          exact ih4 (x2 ||| q4) (x3 + 1) ls (lv_sub hl [2, 3, 1, 0] rfl) ht
  refine lv_iconst (v := 0) hx hb dX9_nearAll_0 (by decide) ?_
  refine lv_istore_n (lv' := [(2, .int 0), (0, .int p0), (1, .int p1)]) hx hb dX9_nearAll_1 rfl hl (by decide) rfl (fun ls hl => ?_)
  refine lv_iconst (v := 0) hx hb dX9_nearAll_2 (by decide) ?_
  refine lv_istore_n (lv' := [(3, .int 0), (2, .int 0), (0, .int p0), (1, .int p1)]) hx hb dX9_nearAll_3 rfl hl (by decide) rfl (fun ls hl => ?_)
  exact L4 5000 0 0 ls (lv_sub hl [2, 3, 1, 0] rfl) ht
abbrev rmX9_cover : Room := { frames := 3, cells := 0, slots := 0, locals := 67 }
set_option maxHeartbeats 4000000 in
set_option maxRecDepth 100000 in
theorem kX9_cover (l : Launch) (D : va_G) (cI cZ cO : ClassId) (d0 : Nat → Nat) (S0 : St) (p0 : Int32) (p1 : Int32) (tg : Int32) (ht : xX9_cover S0 p0 p1 = some tg) : Met l yX9_cover wsX9_cover rmX9_cover (q_PR D cI cZ cO [.ref (d0 0), .int p0, .int p1] (wg9 cI cZ d0 S0)) (vp_Si (fun x => x = tg ∧ True)) 0 0 (fun _ => False) := by
  refine Met.ofW (cc := cX9_cover) (maxL := 6) (ret := (some .int)) (by decide) rfl ?_
  intro p e s m args below meth c s₁ B hml hv
  obtain ⟨rfl, hE, hP⟩ := hv
  have hx := B.exec
  have hb := B.bytes
  have hr := B.returns
  have hts := atoms_spec (ws := wsX9_cover) B.pre
  have hown : s.vm.findClass RX9 = some m.cls := findClass_of_methodNamed B.named
  have hlocks := B.notSynchronized
  have hi9 : ∀ w ∈ u_ws RX9 TX9 37, w ∈ wsX9_cover := by decide +kernel
  have hw0 := hts (.constantLong RX9 89 (11)) (by decide +kernel)
  have hw1 := hts (.fieldLink RX9 16 "HailNamesModel" "lies" "[I") (by decide +kernel)
  have hl := lv_entry ([.ref (d0 0), .int p0, .int p1]) (n := 6) (Nat.le_of_ble_eq_true rfl)
  rw [lg_entry_eq]
  generalize (lg_sl ([.ref (d0 0), .int p0, .int p1]) ++ List.replicate (6 - (lg_sl ([.ref (d0 0), .int p0, .int p1])).length) Slot.unset).toArray = ls at hl ⊢
  have hl : lv_has ls 6 [(0, .ref (d0 0)), (1, .int p0), (2, .int p1)] := hl
  have ht := (xX9_cover_s S0 p0 p1).symm.trans ht
  obtain ⟨Q, hQ⟩ : ∃ Q, Q = MQ below (vp_Si (fun x => x = tg ∧ True)) ([.ref (d0 0), .int p0, .int p1] : List Value).toArray s 0 0 (fun _ => False) := ⟨_, rfl⟩
  rw [← hQ]
  have L30 : ∀ (n : Nat) (x3 : Int32) (x4 : Int32) (ls : Array Slot) (_ : lv_has ls 6 [(0, .ref (d0 0)), (1, .int p0), (2, .int p1), (3, .int x3), (4, .int x4)]) (_ : xX9_cover_h30 S0 p0 p1 n x3 x4 = some tg), W p l e (headSpec wsX9_cover rmX9_cover).room s m ([.ref (d0 0), .int p0, .int p1] : List Value).toArray below meth c s.heap [] 0 0 Q (F0 m 30 ls []) := by
    intro n
    induction n with
    | zero =>
      intro x3 x4 ls hl ht
      exact it_z ht
    | succ n30 ih30 =>
      intro x3 x4 ls hl ht
      have ht := (xX9_cover_h30_s S0 p0 p1 n30 x3 x4).symm.trans ht
      have L77 : ∀ (n : Nat) (x3 : Int32) (x4 : Int32) (x5 : Int32) (ls : Array Slot) (_ : lv_has ls 6 [(1, .int p0), (2, .int p1), (3, .int x3), (4, .int x4), (5, .int x5)]) (_ : xX9_cover_h77 S0 p0 p1 n x3 x4 x5 = some tg), W p l e (headSpec wsX9_cover rmX9_cover).room s m ([.ref (d0 0), .int p0, .int p1] : List Value).toArray below meth c s.heap [] 0 0 Q (F0 m 77 ls []) := by
        intro n
        induction n with
        | zero =>
          intro x3 x4 x5 ls hl ht
          exact it_z ht
        | succ n77 ih77 =>
          intro x3 x4 x5 ls hl ht
          have ht := (xX9_cover_h77_s S0 p0 p1 n77 x3 x4 x5).symm.trans ht
          refine lv_iload hx hb dX9_cover_77 (lv_at hl 4 rfl) ?_
          refine lv_sipush (v := 4096) hx hb dX9_cover_79 (by decide +kernel) ?_
          refine lv_icmp_ge (tgt := 126) hx hb dX9_cover_82 (by decide) (fun c8 => ?_) (fun c8 => ?_)
          · have ht := it_p c8 ht
            refine lv_iload_n hx hb dX9_cover_126 rfl (lv_at hl 1 rfl) ?_
            refine lv_if_ne (tgt := 138) hx hb dX9_cover_127 (by decide) (fun c9 => ?_) (fun c9 => ?_)
            · have ht := it_n c9 ht
              refine lv_iload hx hb dX9_cover_138 (lv_at hl 3 rfl) ?_
              subst hQ
              have ht := Option.some.inj ht
              exact W.iret (v := x4) hx hb hr (fun t e1 hW => ⟨_, rfl, ⟨ht, trivial⟩, e1⟩) (fun q h => absurd h List.not_mem_nil) dX9_cover_140
            · have ht := it_p c9 ht
              refine lv_iload hx hb dX9_cover_130 (lv_at hl 3 rfl) ?_
              obtain ⟨q10, hq10, ht⟩ := it_b ht
              refine q_ri (va_runS (As := [.int x4]) (rest := []) ⟨hx, hb, hml, hown, hts⟩ (kX9_ones l D cI cZ cO x4 q10 hq10) (va_cwS 1 hts gX9_cover_X9_ones rfl rfl rfl (by decide +kernel) ⟨Nat.le_of_ble_eq_true rfl, Nat.le_of_ble_eq_true rfl⟩) (q_rS hE q_nil) rfl rfl hl.1 rfl (lv_room (Nat.le_of_ble_eq_true rfl)) dX9_cover_132 ⟨Nat.le_of_ble_eq_true rfl, Nat.le_of_ble_eq_true rfl⟩) (fun b11 => ?_)
              refine lv_goto (tgt := 140) hx hb dX9_cover_135 (by decide) ?_
              subst hQ
              have ht := Option.some.inj ht
              exact W.iret (v := q10) hx hb hr (fun t e1 hW => ⟨_, rfl, ⟨ht, trivial⟩, e1⟩) (fun q h => absurd h List.not_mem_nil) dX9_cover_140
          · have ht := it_n c8 ht
            refine lv_iload hx hb dX9_cover_85 (lv_at hl 4 rfl) ?_
            obtain ⟨q12, hq12, ht⟩ := it_b ht
            refine q_ri (va_runS (As := [.int x5]) (rest := []) ⟨hx, hb, hml, hown, hts⟩ (kX9_ones l D cI cZ cO x5 q12 hq12) (va_cwS 1 hts gX9_cover_X9_ones rfl rfl rfl (by decide +kernel) ⟨Nat.le_of_ble_eq_true rfl, Nat.le_of_ble_eq_true rfl⟩) (q_rS hE q_nil) rfl rfl hl.1 rfl (lv_room (Nat.le_of_ble_eq_true rfl)) dX9_cover_87 ⟨Nat.le_of_ble_eq_true rfl, Nat.le_of_ble_eq_true rfl⟩) (fun b13 => ?_)
            refine lv_iload hx hb dX9_cover_90 (lv_at hl 3 rfl) ?_
            obtain ⟨q14, hq14, ht⟩ := it_b ht
            refine q_ri (va_runS (As := [.int x4]) (rest := [.int q12]) ⟨hx, hb, hml, hown, hts⟩ (kX9_ones l D cI cZ cO x4 q14 hq14) (va_cwS 1 hts gX9_cover_X9_ones rfl rfl rfl (by decide +kernel) ⟨Nat.le_of_ble_eq_true rfl, Nat.le_of_ble_eq_true rfl⟩) (q_rS hE q_nil) rfl rfl hl.1 rfl (lv_room (Nat.le_of_ble_eq_true rfl)) dX9_cover_92 ⟨Nat.le_of_ble_eq_true rfl, Nat.le_of_ble_eq_true rfl⟩) (fun b15 => ?_)
            refine lv_icmp_ge (tgt := 116) hx hb dX9_cover_95 (by decide) (fun c16 => ?_) (fun c16 => ?_)
            · have ht := it_p c16 ht
              refine lv_iload hx hb dX9_cover_116 (lv_at hl 3 rfl) ?_
              refine lv_istore (lv' := [(4, .int x4), (1, .int p0), (2, .int p1), (3, .int x3), (5, .int x5)]) hx hb dX9_cover_118 hl (by decide) rfl (fun ls hl => ?_)
              refine lv_iinc (v := x5 + 1) (lv' := [(5, .int (x5 + 1)), (4, .int x4), (1, .int p0), (2, .int p1), (3, .int x3)]) hx hb dX9_cover_120 hl (k := 4) rfl rfl (by decide) rfl (fun ls hl => ?_)
              refine lv_goto (tgt := 77) hx hb dX9_cover_123 (by decide) ?_
              exact ih77 x3 x4 (x5 + 1) ls (lv_sub hl [2, 3, 4, 1, 0] rfl) ht
            · have ht := it_n c16 ht
              refine lv_iload_n hx hb dX9_cover_98 rfl (lv_at hl 2 rfl) ?_
              refine lv_iload hx hb dX9_cover_99 (lv_at hl 4 rfl) ?_
              refine lv_iload_n hx hb dX9_cover_101 rfl (lv_at hl 0 rfl) ?_
              obtain ⟨q17, hq17, ht⟩ := it_b ht
              refine q_ri (va_runS (As := [.int x5, .int p0]) (rest := [.int x3]) ⟨hx, hb, hml, hown, hts⟩ (kX9_nearAll l D cI cZ cO x5 p0 q17 hq17) (va_cwS 2 hts gX9_cover_X9_nearAll rfl rfl rfl (by decide +kernel) ⟨Nat.le_of_ble_eq_true rfl, Nat.le_of_ble_eq_true rfl⟩) (q_rS hE q_nil) rfl rfl hl.1 rfl (lv_room (Nat.le_of_ble_eq_true rfl)) dX9_cover_102 ⟨Nat.le_of_ble_eq_true rfl, Nat.le_of_ble_eq_true rfl⟩) (fun b18 => ?_)
              refine lv_iconst (v := (-1)) hx hb dX9_cover_105 (by decide) ?_
              refine lv_ixor hx hb dX9_cover_106 ?_
              refine lv_iand hx hb dX9_cover_107 ?_
              refine lv_if_ne (tgt := 116) hx hb dX9_cover_108 (by decide) (fun c19 => ?_) (fun c19 => ?_)
              · have ht := it_n c19 ht
                refine lv_iload hx hb dX9_cover_116 (lv_at hl 3 rfl) ?_
                refine lv_istore (lv' := [(4, .int x4), (1, .int p0), (2, .int p1), (3, .int x3), (5, .int x5)]) hx hb dX9_cover_118 hl (by decide) rfl (fun ls hl => ?_)
                refine lv_iinc (v := x5 + 1) (lv' := [(5, .int (x5 + 1)), (4, .int x4), (1, .int p0), (2, .int p1), (3, .int x3)]) hx hb dX9_cover_120 hl (k := 4) rfl rfl (by decide) rfl (fun ls hl => ?_)
                refine lv_goto (tgt := 77) hx hb dX9_cover_123 (by decide) ?_
                exact ih77 x3 x4 (x5 + 1) ls (lv_sub hl [2, 3, 4, 1, 0] rfl) ht
              · have ht := it_p c19 ht
                refine lv_iload hx hb dX9_cover_111 (lv_at hl 4 rfl) ?_
                refine lv_goto (tgt := 118) hx hb dX9_cover_113 (by decide) ?_
                refine lv_istore (lv' := [(4, .int x5), (1, .int p0), (2, .int p1), (3, .int x3), (5, .int x5)]) hx hb dX9_cover_118 hl (by decide) rfl (fun ls hl => ?_)
                refine lv_iinc (v := x5 + 1) (lv' := [(5, .int (x5 + 1)), (4, .int x5), (1, .int p0), (2, .int p1), (3, .int x3)]) hx hb dX9_cover_120 hl (k := 4) rfl rfl (by decide) rfl (fun ls hl => ?_)
                refine lv_goto (tgt := 77) hx hb dX9_cover_123 (by decide) ?_
                exact ih77 x3 x5 (x5 + 1) ls (lv_sub hl [2, 3, 4, 1, 0] rfl) ht
      refine lv_iload hx hb dX9_cover_30 (lv_at hl 4 rfl) ?_
      refine lv_bipush (v := 8) hx hb dX9_cover_32 (by decide) ?_
      refine lv_icmp_ge (tgt := 69) hx hb dX9_cover_34 (by decide) (fun c5 => ?_) (fun c5 => ?_)
      · have ht := it_p c5 ht
        refine lv_sipush (v := 4095) hx hb dX9_cover_69 (by decide +kernel) ?_
        refine lv_istore (lv' := [(4, .int 4095), (0, .ref (d0 0)), (1, .int p0), (2, .int p1), (3, .int x3)]) hx hb dX9_cover_72 hl (by decide) rfl (fun ls hl => ?_)
        refine lv_iconst (v := 0) hx hb dX9_cover_74 (by decide) ?_
        refine lv_istore (lv' := [(5, .int 0), (4, .int 4095), (0, .ref (d0 0)), (1, .int p0), (2, .int p1), (3, .int x3)]) hx hb dX9_cover_75 hl (by decide) rfl (fun ls hl => ?_)
        exact L77 5000 x3 4095 0 ls (lv_sub hl [3, 4, 5, 1, 0] rfl) ht
      · have ht := it_n c5 ht
        refine lv_iload_n hx hb dX9_cover_37 rfl (lv_at hl 3 rfl) ?_
        refine lv_aload_n hx hb dX9_cover_38 rfl (lv_at hl 0 rfl) ?_
        refine va_get (D := D) (ci := 9) (v := .ref (d0 3)) (C := RX9) (T := TX9) (N := 37) hx hb hts hi9 hown hE.1 hP 0 rfl rfl 2 (by decide) hw1 (fun _ h9 => h9) rfl dX9_cover_39 ?_
        refine lv_iload hx hb dX9_cover_42 (lv_at hl 4 rfl) ?_
        obtain ⟨g6, ht⟩ := it_g ht
        refine va_iald hx hb hE.1 hP 3 0 rfl rfl (q_in g6) dX9_cover_44 ?_
        refine lv_if_lt (tgt := 60) hx hb dX9_cover_45 (by decide) (fun c7 => ?_) (fun c7 => ?_)
        · have ht := it_p c7 ht
          refine lv_iconst (v := 0) hx hb dX9_cover_60 (by decide) ?_
          refine lv_ior hx hb dX9_cover_61 ?_
          refine lv_istore_n (lv' := [(3, .int (x3 ||| 0)), (0, .ref (d0 0)), (1, .int p0), (2, .int p1), (4, .int x4)]) hx hb dX9_cover_62 rfl hl (by decide) rfl (fun ls hl => ?_)
          refine lv_iinc (v := x4 + 1) (lv' := [(4, .int (x4 + 1)), (3, .int (x3 ||| 0)), (0, .ref (d0 0)), (1, .int p0), (2, .int p1)]) hx hb dX9_cover_63 hl (k := 4) rfl rfl (by decide) rfl (fun ls hl => ?_)
          refine lv_goto (tgt := 30) hx hb dX9_cover_66 (by decide) ?_
          exact ih30 (x3 ||| 0) (x4 + 1) ls (lv_sub hl [2, 3, 4, 1, 0] rfl) ht
        · have ht := it_n c7 ht
          refine lv_iconst (v := 1) hx hb dX9_cover_48 (by decide) ?_
          refine lv_aload_n hx hb dX9_cover_49 rfl (lv_at hl 0 rfl) ?_
          refine va_get (D := D) (ci := 9) (v := .ref (d0 3)) (C := RX9) (T := TX9) (N := 37) hx hb hts hi9 hown hE.1 hP 0 rfl rfl 2 (by decide) hw1 (fun _ h9 => h9) rfl dX9_cover_50 ?_
          refine lv_iload hx hb dX9_cover_53 (lv_at hl 4 rfl) ?_
          refine va_iald hx hb hE.1 hP 3 0 rfl rfl (q_in g6) dX9_cover_55 ?_
          refine q_ishl hx hb dX9_cover_56 ?_
          refine lv_goto (tgt := 61) hx hb dX9_cover_57 (by decide) ?_
          refine lv_ior hx hb dX9_cover_61 ?_
          refine lv_istore_n (lv' := [(3, .int (x3 ||| (q_shl 1 (S0 2 x4.toNatClampNeg)))), (0, .ref (d0 0)), (1, .int p0), (2, .int p1), (4, .int x4)]) hx hb dX9_cover_62 rfl hl (by decide) rfl (fun ls hl => ?_)
          refine lv_iinc (v := x4 + 1) (lv' := [(4, .int (x4 + 1)), (3, .int (x3 ||| (q_shl 1 (S0 2 x4.toNatClampNeg)))), (0, .ref (d0 0)), (1, .int p0), (2, .int p1)]) hx hb dX9_cover_63 hl (k := 4) rfl rfl (by decide) rfl (fun ls hl => ?_)
          refine lv_goto (tgt := 30) hx hb dX9_cover_66 (by decide) ?_
          exact ih30 (x3 ||| (q_shl 1 (S0 2 x4.toNatClampNeg))) (x4 + 1) ls (lv_sub hl [2, 3, 4, 1, 0] rfl) ht
  refine lv_iload_n hx hb dX9_cover_0 rfl (lv_at hl 1 rfl) ?_
  refine lv_i2l (v := p0.toInt64) hx hb dX9_cover_1 rfl ?_
  refine lv_lconst (v := 0) hx hb dX9_cover_2 (by decide) ?_
  refine lv_ldc2 hx hb hown hw0 dX9_cover_3 ?_
  refine q_ri (va_runS (As := [.long p0.toInt64, .long 0, .long 11]) (rest := []) ⟨hx, hb, hml, hown, hts⟩ (kX9_in l D cI cZ cO p0.toInt64 0 11) (va_cwS 3 hts gX9_cover_X9_in rfl rfl rfl (by decide +kernel) ⟨Nat.le_of_ble_eq_true rfl, Nat.le_of_ble_eq_true rfl⟩) (q_rS hE q_nil) rfl rfl hl.1 rfl (lv_room (Nat.le_of_ble_eq_true rfl)) dX9_cover_6 ⟨Nat.le_of_ble_eq_true rfl, Nat.le_of_ble_eq_true rfl⟩) (fun b1 => ?_)
  refine lv_if_eq (tgt := 22) hx hb dX9_cover_9 (by decide) (fun c2 => ?_) (fun c2 => ?_)
  · have ht := it_p c2 ht
    refine lv_bipush (v := (-2)) hx hb dX9_cover_22 (by decide) ?_
    subst hQ
    have ht := Option.some.inj ht
    exact W.iret (v := (-2)) hx hb hr (fun t e1 hW => ⟨_, rfl, ⟨ht, trivial⟩, e1⟩) (fun q h => absurd h List.not_mem_nil) dX9_cover_24
  · have ht := it_n c2 ht
    refine lv_iload_n hx hb dX9_cover_12 rfl (lv_at hl 2 rfl) ?_
    refine lv_i2l (v := p1.toInt64) hx hb dX9_cover_13 rfl ?_
    refine lv_lconst (v := 0) hx hb dX9_cover_14 (by decide) ?_
    refine lv_lconst (v := 1) hx hb dX9_cover_15 (by decide) ?_
    refine q_ri (va_runS (As := [.long p1.toInt64, .long 0, .long 1]) (rest := []) ⟨hx, hb, hml, hown, hts⟩ (kX9_in l D cI cZ cO p1.toInt64 0 1) (va_cwS 3 hts gX9_cover_X9_in rfl rfl rfl (by decide +kernel) ⟨Nat.le_of_ble_eq_true rfl, Nat.le_of_ble_eq_true rfl⟩) (q_rS hE q_nil) rfl rfl hl.1 rfl (lv_room (Nat.le_of_ble_eq_true rfl)) dX9_cover_16 ⟨Nat.le_of_ble_eq_true rfl, Nat.le_of_ble_eq_true rfl⟩) (fun b3 => ?_)
    refine lv_if_ne (tgt := 25) hx hb dX9_cover_19 (by decide) (fun c4 => ?_) (fun c4 => ?_)
    · have ht := it_n c4 ht
      refine lv_iconst (v := 0) hx hb dX9_cover_25 (by decide) ?_
      refine lv_istore_n (lv' := [(3, .int 0), (0, .ref (d0 0)), (1, .int p0), (2, .int p1)]) hx hb dX9_cover_26 rfl hl (by decide) rfl (fun ls hl => ?_)
      refine lv_iconst (v := 0) hx hb dX9_cover_27 (by decide) ?_
      refine lv_istore (lv' := [(4, .int 0), (3, .int 0), (0, .ref (d0 0)), (1, .int p0), (2, .int p1)]) hx hb dX9_cover_28 hl (by decide) rfl (fun ls hl => ?_)
      exact L30 5000 0 0 ls (lv_sub hl [2, 3, 4, 1, 0] rfl) ht
    · have ht := it_p c4 ht
      refine lv_bipush (v := (-2)) hx hb dX9_cover_22 (by decide) ?_
      subst hQ
      have ht := Option.some.inj ht
      exact W.iret (v := (-2)) hx hb hr (fun t e1 hW => ⟨_, rfl, ⟨ht, trivial⟩, e1⟩) (fun q h => absurd h List.not_mem_nil) dX9_cover_24
abbrev rmX9_seen : Room := { frames := 1, cells := 0, slots := 0, locals := 25 }
set_option maxHeartbeats 4000000 in
set_option maxRecDepth 100000 in
theorem kX9_seen (l : Launch) (D : va_G) (cI cZ cO : ClassId) (d0 : Nat → Nat) (sz : Nat) (S0 : St) (p0 : Int32) (p1 : Int32) (p2 : Int32) (tg : Int32 × St) (ht : xX9_seen p0 p1 p2 S0 = some tg) : Met l yX9_seen wsX9_seen rmX9_seen (q_PM D cI cZ cO [.ref (d0 0), .int p0, .int p1, .int p2] sz (wg9 cI cZ d0 S0)) (va_Qi (fun x (_ : Unit) => x = tg.1 ∧ True) (fun _ t => va_P D vwCl (wg9 cI cZ d0 tg.2) t.heap) (va_A (wg9 cI cZ d0 S0) sz)) 0 0 (va_A (wg9 cI cZ d0 S0) sz) := by
  refine Met.ofW (cc := cX9_seen) (maxL := 4) (ret := (some .int)) (by decide) rfl ?_
  intro p e s m args below meth c s₁ B hml hv
  obtain ⟨rfl, hsz, hE, hP, hD0⟩ := hv
  have hx := B.exec
  have hb := B.bytes
  have hr := B.returns
  have hts := atoms_spec (ws := wsX9_seen) B.pre
  have hown : s.vm.findClass RX9 = some m.cls := findClass_of_methodNamed B.named
  have hlocks := B.notSynchronized
  have hi9 : ∀ w ∈ u_ws RX9 TX9 37, w ∈ wsX9_seen := by decide +kernel
  have hw0 := hts (.constantLong RX9 283 (15)) (by decide +kernel)
  have hw1 := hts (.constantLong RX9 87 (3)) (by decide +kernel)
  have hw2 := hts (.fieldLink RX9 285 "HailNamesModel" "sights" "I") (by decide +kernel)
  have hw3 := hts (.fieldLink RX9 37 "HailNamesModel" "sightSet" "[I") (by decide +kernel)
  have hw4 := hts (.fieldLink RX9 40 "HailNamesModel" "sightOf" "[I") (by decide +kernel)
  have hw5 := hts (.fieldLink RX9 43 "HailNamesModel" "sightMany" "[I") (by decide +kernel)
  subst hsz
  have hD1 := hD0.self (sz := s.heap.size)
  generalize hAe : va_A (wg9 cI cZ d0 S0) s.heap.size = A at hD1 ⊢
  have hA : ∀ q : Nat, s.heap.size ≤ q → A q := fun q h => by rw [← hAe]; exact Or.inr h
  have hS : va_S A s.heap s.heap [] := va_S.rf
  have hD : ∀ (S0 : St), va_D A (wg9 cI cZ d0 S0) := fun S0 => q_D hD1 rfl
  have hl := lv_entry ([.ref (d0 0), .int p0, .int p1, .int p2]) (n := 4) (Nat.le_of_ble_eq_true rfl)
  rw [lg_entry_eq]
  generalize (lg_sl ([.ref (d0 0), .int p0, .int p1, .int p2]) ++ List.replicate (4 - (lg_sl ([.ref (d0 0), .int p0, .int p1, .int p2])).length) Slot.unset).toArray = ls at hl ⊢
  have hl : lv_has ls 4 [(0, .ref (d0 0)), (1, .int p0), (2, .int p1), (3, .int p2)] := hl
  have ht := (xX9_seen_s p0 p1 p2 S0).symm.trans ht
  refine lv_iload_n hx hb dX9_seen_0 rfl (lv_at hl 1 rfl) ?_
  refine lv_i2l (v := p0.toInt64) hx hb dX9_seen_1 rfl ?_
  refine lv_lconst (v := 1) hx hb dX9_seen_2 (by decide) ?_
  refine lv_ldc2 hx hb hown hw0 dX9_seen_3 ?_
  refine q_ri (va_runS (As := [.long p0.toInt64, .long 1, .long 15]) (rest := []) ⟨hx, hb, hml, hown, hts⟩ (kX9_in l D cI cZ cO p0.toInt64 1 15) (va_cwS 3 hts gX9_seen_X9_in rfl rfl rfl (by decide +kernel) ⟨Nat.le_of_ble_eq_true rfl, Nat.le_of_ble_eq_true rfl⟩) (q_rS hE q_nil) rfl rfl hl.1 rfl (lv_room (Nat.le_of_ble_eq_true rfl)) dX9_seen_6 ⟨Nat.le_of_ble_eq_true rfl, Nat.le_of_ble_eq_true rfl⟩) (fun b1 => ?_)
  refine lv_if_eq (tgt := 36) hx hb dX9_seen_9 (by decide) (fun c2 => ?_) (fun c2 => ?_)
  · have ht := it_p c2 ht
    refine lv_bipush (v := (-2)) hx hb dX9_seen_36 (by decide) ?_
    obtain rfl := Option.some.inj ht
    exact W.iret (v := (-2)) hx hb hr (fun t e1 hW => ⟨⟨_, (), rfl, ⟨rfl, trivial⟩, q_at e1 hP⟩, hS.F e1⟩) hS.2.2 dX9_seen_38
  · have ht := it_n c2 ht
    refine lv_iload_n hx hb dX9_seen_12 rfl (lv_at hl 2 rfl) ?_
    refine lv_i2l (v := p1.toInt64) hx hb dX9_seen_13 rfl ?_
    refine lv_lconst (v := 0) hx hb dX9_seen_14 (by decide) ?_
    refine lv_ldc2 hx hb hown hw1 dX9_seen_15 ?_
    refine q_ri (va_runS (As := [.long p1.toInt64, .long 0, .long 3]) (rest := []) ⟨hx, hb, hml, hown, hts⟩ (kX9_in l D cI cZ cO p1.toInt64 0 3) (va_cwS 3 hts gX9_seen_X9_in rfl rfl rfl (by decide +kernel) ⟨Nat.le_of_ble_eq_true rfl, Nat.le_of_ble_eq_true rfl⟩) (q_rS hE q_nil) rfl rfl hl.1 rfl (lv_room (Nat.le_of_ble_eq_true rfl)) dX9_seen_18 ⟨Nat.le_of_ble_eq_true rfl, Nat.le_of_ble_eq_true rfl⟩) (fun b3 => ?_)
    refine lv_if_eq (tgt := 36) hx hb dX9_seen_21 (by decide) (fun c4 => ?_) (fun c4 => ?_)
    · have ht := it_p c4 ht
      refine lv_bipush (v := (-2)) hx hb dX9_seen_36 (by decide) ?_
      obtain rfl := Option.some.inj ht
      exact W.iret (v := (-2)) hx hb hr (fun t e1 hW => ⟨⟨_, (), rfl, ⟨rfl, trivial⟩, q_at e1 hP⟩, hS.F e1⟩) hS.2.2 dX9_seen_38
    · have ht := it_n c4 ht
      refine lv_iload_n hx hb dX9_seen_24 rfl (lv_at hl 3 rfl) ?_
      refine lv_i2l (v := p2.toInt64) hx hb dX9_seen_25 rfl ?_
      refine lv_lconst (v := 0) hx hb dX9_seen_26 (by decide) ?_
      refine lv_ldc2 hx hb hown hw1 dX9_seen_27 ?_
      refine q_ri (va_runS (As := [.long p2.toInt64, .long 0, .long 3]) (rest := []) ⟨hx, hb, hml, hown, hts⟩ (kX9_in l D cI cZ cO p2.toInt64 0 3) (va_cwS 3 hts gX9_seen_X9_in rfl rfl rfl (by decide +kernel) ⟨Nat.le_of_ble_eq_true rfl, Nat.le_of_ble_eq_true rfl⟩) (q_rS hE q_nil) rfl rfl hl.1 rfl (lv_room (Nat.le_of_ble_eq_true rfl)) dX9_seen_30 ⟨Nat.le_of_ble_eq_true rfl, Nat.le_of_ble_eq_true rfl⟩) (fun b5 => ?_)
      refine lv_if_ne (tgt := 39) hx hb dX9_seen_33 (by decide) (fun c6 => ?_) (fun c6 => ?_)
      · have ht := it_n c6 ht
        refine lv_aload_n hx hb dX9_seen_39 rfl (lv_at hl 0 rfl) ?_
        refine va_get (D := D) (ci := 9) (v := .int (S0 14 0)) (C := RX9) (T := TX9) (N := 37) hx hb hts hi9 hown hE.1 hP 0 rfl rfl 14 (by decide) hw2 (fun _ h9 => h9) rfl dX9_seen_40 ?_
        refine lv_bipush (v := 8) hx hb dX9_seen_43 (by decide) ?_
        refine lv_icmp_ne (tgt := 51) hx hb dX9_seen_45 (by decide) (fun c7 => ?_) (fun c7 => ?_)
        · have ht := it_n c7 ht
          refine lv_aload_n hx hb dX9_seen_51 rfl (lv_at hl 0 rfl) ?_
          refine va_get (D := D) (ci := 9) (v := .ref (d0 12)) (C := RX9) (T := TX9) (N := 37) hx hb hts hi9 hown hE.1 hP 0 rfl rfl 11 (by decide) hw3 (fun _ h9 => h9) rfl dX9_seen_52 ?_
          refine lv_aload_n hx hb dX9_seen_55 rfl (lv_at hl 0 rfl) ?_
          refine va_get (D := D) (ci := 9) (v := .int (S0 14 0)) (C := RX9) (T := TX9) (N := 37) hx hb hts hi9 hown hE.1 hP 0 rfl rfl 14 (by decide) hw2 (fun _ h9 => h9) rfl dX9_seen_56 ?_
          refine lv_iload_n hx hb dX9_seen_59 rfl (lv_at hl 1 rfl) ?_
          obtain ⟨g8, ht⟩ := it_g ht
          refine va_iast hx hb hE.1 hP (hD _) hS 10 0 rfl rfl (q_in g8) dX9_seen_60 (fun H locs hP _ hS => ?_)
          have hP : va_P D vwCl (wg9 cI cZ d0 (q_su S0 11 ((S0 14 0).toNatClampNeg) p0)) H := hP
          obtain ⟨T9, eT9⟩ : ∃ z : St, z = q_su S0 11 ((S0 14 0).toNatClampNeg) p0 := ⟨_, rfl⟩
          rw [← eT9] at hP
          have ht := it_l ht eT9
          refine lv_aload_n hx hb dX9_seen_61 rfl (lv_at hl 0 rfl) ?_
          refine va_get (D := D) (ci := 9) (v := .ref (d0 13)) (C := RX9) (T := TX9) (N := 37) hx hb hts hi9 hown hE.1 hP 0 rfl rfl 12 (by decide) hw4 (fun _ h9 => h9) rfl dX9_seen_62 ?_
          refine lv_aload_n hx hb dX9_seen_65 rfl (lv_at hl 0 rfl) ?_
          refine va_get (D := D) (ci := 9) (v := .int (T9 14 0)) (C := RX9) (T := TX9) (N := 37) hx hb hts hi9 hown hE.1 hP 0 rfl rfl 14 (by decide) hw2 (fun _ h9 => h9) rfl dX9_seen_66 ?_
          refine lv_iload_n hx hb dX9_seen_69 rfl (lv_at hl 2 rfl) ?_
          obtain ⟨g10, ht⟩ := it_g ht
          refine va_iast hx hb hE.1 hP (hD _) hS 11 0 rfl rfl (q_in g10) dX9_seen_70 (fun H locs hP _ hS => ?_)
          have hP : va_P D vwCl (wg9 cI cZ d0 (q_su T9 12 ((T9 14 0).toNatClampNeg) p1)) H := hP
          obtain ⟨T11, eT11⟩ : ∃ z : St, z = q_su T9 12 ((T9 14 0).toNatClampNeg) p1 := ⟨_, rfl⟩
          rw [← eT11] at hP
          have ht := it_l ht eT11
          refine lv_aload_n hx hb dX9_seen_71 rfl (lv_at hl 0 rfl) ?_
          refine va_get (D := D) (ci := 9) (v := .ref (d0 14)) (C := RX9) (T := TX9) (N := 37) hx hb hts hi9 hown hE.1 hP 0 rfl rfl 13 (by decide) hw5 (fun _ h9 => h9) rfl dX9_seen_72 ?_
          refine lv_aload_n hx hb dX9_seen_75 rfl (lv_at hl 0 rfl) ?_
          refine va_get (D := D) (ci := 9) (v := .int (T11 14 0)) (C := RX9) (T := TX9) (N := 37) hx hb hts hi9 hown hE.1 hP 0 rfl rfl 14 (by decide) hw2 (fun _ h9 => h9) rfl dX9_seen_76 ?_
          refine lv_iload_n hx hb dX9_seen_79 rfl (lv_at hl 3 rfl) ?_
          obtain ⟨g12, ht⟩ := it_g ht
          refine va_iast hx hb hE.1 hP (hD _) hS 12 0 rfl rfl (q_in g12) dX9_seen_80 (fun H locs hP _ hS => ?_)
          have hP : va_P D vwCl (wg9 cI cZ d0 (q_su T11 13 ((T11 14 0).toNatClampNeg) p2)) H := hP
          obtain ⟨T13, eT13⟩ : ∃ z : St, z = q_su T11 13 ((T11 14 0).toNatClampNeg) p2 := ⟨_, rfl⟩
          rw [← eT13] at hP
          have ht := it_l ht eT13
          refine lv_aload_n hx hb dX9_seen_81 rfl (lv_at hl 0 rfl) ?_
          refine lv_dup hx hb dX9_seen_82 rfl ?_
          refine va_get (D := D) (ci := 9) (v := .int (T13 14 0)) (C := RX9) (T := TX9) (N := 37) hx hb hts hi9 hown hE.1 hP 0 rfl rfl 14 (by decide) hw2 (fun _ h9 => h9) rfl dX9_seen_83 ?_
          refine lv_iconst (v := 1) hx hb dX9_seen_86 (by decide) ?_
          refine lv_iadd hx hb dX9_seen_87 ?_
          refine va_put (D := D) (ci := 9) (v := .int ((T13 14 0) + 1)) (ty := .int) (C := RX9) (T := TX9) (N := 37) hx hb hts hi9 tyX9 tyX9_ok nmX9 hown hE.1 hP (hD _) hS 0 rfl rfl 14 (by decide) hw2 (fun _ h9 => h9) rfl (by decide +kernel) rfl rfl (Nat.le_of_ble_eq_true rfl) dX9_seen_88 (fun H locs hP _ hS => ?_)
          have hP : va_P D vwCl (wg9 cI cZ d0 (q_su T13 14 0 ((T13 14 0) + 1))) H := hP
          obtain ⟨T14, eT14⟩ : ∃ z : St, z = q_su T13 14 0 ((T13 14 0) + 1) := ⟨_, rfl⟩
          rw [← eT14] at hP
          have ht := it_l ht eT14
          refine lv_aload_n hx hb dX9_seen_91 rfl (lv_at hl 0 rfl) ?_
          refine va_get (D := D) (ci := 9) (v := .int (T14 14 0)) (C := RX9) (T := TX9) (N := 37) hx hb hts hi9 hown hE.1 hP 0 rfl rfl 14 (by decide) hw2 (fun _ h9 => h9) rfl dX9_seen_92 ?_
          obtain rfl := Option.some.inj ht
          exact W.iret (v := T14 14 0) hx hb hr (fun t e1 hW => ⟨⟨_, (), rfl, ⟨rfl, trivial⟩, q_at e1 hP⟩, hS.F e1⟩) hS.2.2 dX9_seen_95
        · have ht := it_p c7 ht
          refine lv_bipush (v := (-4)) hx hb dX9_seen_48 (by decide) ?_
          obtain rfl := Option.some.inj ht
          exact W.iret (v := (-4)) hx hb hr (fun t e1 hW => ⟨⟨_, (), rfl, ⟨rfl, trivial⟩, q_at e1 hP⟩, hS.F e1⟩) hS.2.2 dX9_seen_50
      · have ht := it_p c6 ht
        refine lv_bipush (v := (-2)) hx hb dX9_seen_36 (by decide) ?_
        obtain rfl := Option.some.inj ht
        exact W.iret (v := (-2)) hx hb hr (fun t e1 hW => ⟨⟨_, (), rfl, ⟨rfl, trivial⟩, q_at e1 hP⟩, hS.F e1⟩) hS.2.2 dX9_seen_38
abbrev rmX9_forget : Room := { frames := 0, cells := 0, slots := 0, locals := 0 }
set_option maxHeartbeats 4000000 in
set_option maxRecDepth 100000 in
theorem kX9_forget (l : Launch) (D : va_G) (cI cZ cO : ClassId) (d0 : Nat → Nat) (sz : Nat) (S0 : St) (tg : Int32 × St) (ht : xX9_forget S0 = some tg) : Met l yX9_forget wsX9_forget rmX9_forget (q_PM D cI cZ cO [.ref (d0 0)] sz (wg9 cI cZ d0 S0)) (va_Qi (fun x (_ : Unit) => x = tg.1 ∧ True) (fun _ t => va_P D vwCl (wg9 cI cZ d0 tg.2) t.heap) (va_A (wg9 cI cZ d0 S0) sz)) 0 0 (va_A (wg9 cI cZ d0 S0) sz) := by
  refine Met.ofW (cc := cX9_forget) (maxL := 2) (ret := (some .int)) (by decide) rfl ?_
  intro p e s m args below meth c s₁ B hml hv
  obtain ⟨rfl, hsz, hE, hP, hD0⟩ := hv
  have hx := B.exec
  have hb := B.bytes
  have hr := B.returns
  have hts := atoms_spec (ws := wsX9_forget) B.pre
  have hown : s.vm.findClass RX9 = some m.cls := findClass_of_methodNamed B.named
  have hlocks := B.notSynchronized
  have hi9 : ∀ w ∈ u_ws RX9 TX9 37, w ∈ wsX9_forget := by decide +kernel
  have hw0 := hts (.fieldLink RX9 285 "HailNamesModel" "sights" "I") (by decide +kernel)
  subst hsz
  have hD1 := hD0.self (sz := s.heap.size)
  generalize hAe : va_A (wg9 cI cZ d0 S0) s.heap.size = A at hD1 ⊢
  have hA : ∀ q : Nat, s.heap.size ≤ q → A q := fun q h => by rw [← hAe]; exact Or.inr h
  have hS : va_S A s.heap s.heap [] := va_S.rf
  have hD : ∀ (S0 : St), va_D A (wg9 cI cZ d0 S0) := fun S0 => q_D hD1 rfl
  have hl := lv_entry ([.ref (d0 0)]) (n := 2) (Nat.le_of_ble_eq_true rfl)
  rw [lg_entry_eq]
  generalize (lg_sl ([.ref (d0 0)]) ++ List.replicate (2 - (lg_sl ([.ref (d0 0)])).length) Slot.unset).toArray = ls at hl ⊢
  have hl : lv_has ls 2 [(0, .ref (d0 0))] := hl
  have ht := (xX9_forget_s S0).symm.trans ht
  refine lv_aload_n hx hb dX9_forget_0 rfl (lv_at hl 0 rfl) ?_
  refine va_get (D := D) (ci := 9) (v := .int (S0 14 0)) (C := RX9) (T := TX9) (N := 37) hx hb hts hi9 hown hE.1 hP 0 rfl rfl 14 (by decide) hw0 (fun _ h9 => h9) rfl dX9_forget_1 ?_
  refine lv_istore_n (lv' := [(1, .int (S0 14 0)), (0, .ref (d0 0))]) hx hb dX9_forget_4 rfl hl (by decide) rfl (fun ls hl => ?_)
  refine lv_aload_n hx hb dX9_forget_5 rfl (lv_at hl 1 rfl) ?_
  refine lv_iconst (v := 0) hx hb dX9_forget_6 (by decide) ?_
  refine va_put (D := D) (ci := 9) (v := .int 0) (ty := .int) (C := RX9) (T := TX9) (N := 37) hx hb hts hi9 tyX9 tyX9_ok nmX9 hown hE.1 hP (hD _) hS 0 rfl rfl 14 (by decide) hw0 (fun _ h9 => h9) rfl (by decide +kernel) rfl rfl (Nat.le_of_ble_eq_true rfl) dX9_forget_7 (fun H locs hP _ hS => ?_)
  have hP : va_P D vwCl (wg9 cI cZ d0 (q_su S0 14 0 0)) H := hP
  obtain ⟨T1, eT1⟩ : ∃ z : St, z = q_su S0 14 0 0 := ⟨_, rfl⟩
  rw [← eT1] at hP
  have ht := it_l ht eT1
  refine lv_iload_n hx hb dX9_forget_10 rfl (lv_at hl 0 rfl) ?_
  obtain rfl := Option.some.inj ht
  exact W.iret (v := S0 14 0) hx hb hr (fun t e1 hW => ⟨⟨_, (), rfl, ⟨rfl, trivial⟩, q_at e1 hP⟩, hS.F e1⟩) hS.2.2 dX9_forget_11
abbrev rmX9_ofWhom : Room := { frames := 0, cells := 0, slots := 0, locals := 0 }
set_option maxHeartbeats 4000000 in
set_option maxRecDepth 100000 in
theorem kX9_ofWhom (l : Launch) (D : va_G) (cI cZ cO : ClassId) (p0 : Int32) (p1 : Int32) : Met l yX9_ofWhom wsX9_ofWhom rmX9_ofWhom (q_PR D cI cZ cO [.int p0, .int p1] ([] : va_W)) (vp_Si (fun x => x = xX9_ofWhom p0 p1 ∧ True)) 0 0 (fun _ => False) := by
  refine Met.ofW (cc := cX9_ofWhom) (maxL := 2) (ret := (some .int)) (by decide) rfl ?_
  intro p e s m args below meth c s₁ B hml hv
  obtain ⟨rfl, hE, hP⟩ := hv
  have hx := B.exec
  have hb := B.bytes
  have hr := B.returns
  have hts := atoms_spec (ws := wsX9_ofWhom) B.pre
  have hown : s.vm.findClass RX9 = some m.cls := findClass_of_methodNamed B.named
  have hlocks := B.notSynchronized
  have hl := lv_entry ([.int p0, .int p1]) (n := 2) (Nat.le_of_ble_eq_true rfl)
  rw [lg_entry_eq]
  generalize (lg_sl ([.int p0, .int p1]) ++ List.replicate (2 - (lg_sl ([.int p0, .int p1])).length) Slot.unset).toArray = ls at hl ⊢
  have hl : lv_has ls 2 [(0, .int p0), (1, .int p1)] := hl
  have ht := xX9_ofWhom_s p0 p1
  obtain ⟨tg, htg⟩ : ∃ z, z = xX9_ofWhom p0 p1 := ⟨_, rfl⟩
  rw [← htg] at ht ⊢
  have ht := ht.symm
  refine lv_iload_n hx hb dX9_ofWhom_0 rfl (lv_at hl 0 rfl) ?_
  refine lv_iconst (v := 2) hx hb dX9_ofWhom_1 (by decide) ?_
  refine lv_iconst (v := 3) hx hb dX9_ofWhom_2 (by decide) ?_
  refine lv_iload_n hx hb dX9_ofWhom_3 rfl (lv_at hl 1 rfl) ?_
  refine lv_isub hx hb dX9_ofWhom_4 ?_
  refine lv_imul hx hb dX9_ofWhom_5 ?_
  refine q_ishr hx hb dX9_ofWhom_6 ?_
  refine lv_iconst (v := 3) hx hb dX9_ofWhom_7 (by decide) ?_
  refine lv_iand hx hb dX9_ofWhom_8 ?_
  exact W.iret (v := (q_shr p0 (2 * (3 - p1))) &&& 3) hx hb hr (fun t e1 hW => ⟨_, rfl, ⟨ht, trivial⟩, e1⟩) (fun q h => absurd h List.not_mem_nil) dX9_ofWhom_9
abbrev rmX9_thinkOf : Room := { frames := 1, cells := 0, slots := 0, locals := 21 }
set_option maxHeartbeats 4000000 in
set_option maxRecDepth 100000 in
theorem kX9_thinkOf (l : Launch) (D : va_G) (cI cZ cO : ClassId) (p0 : Int32) (p1 : Int32) (p2 : Int32) (tg : Int32) (ht : xX9_thinkOf p0 p1 p2 = some tg) : Met l yX9_thinkOf wsX9_thinkOf rmX9_thinkOf (q_PR D cI cZ cO [.int p0, .int p1, .int p2] ([] : va_W)) (vp_Si (fun x => x = tg ∧ True)) 0 0 (fun _ => False) := by
  refine Met.ofW (cc := cX9_thinkOf) (maxL := 5) (ret := (some .int)) (by decide) rfl ?_
  intro p e s m args below meth c s₁ B hml hv
  obtain ⟨rfl, hE, hP⟩ := hv
  have hx := B.exec
  have hb := B.bytes
  have hr := B.returns
  have hts := atoms_spec (ws := wsX9_thinkOf) B.pre
  have hown : s.vm.findClass RX9 = some m.cls := findClass_of_methodNamed B.named
  have hlocks := B.notSynchronized
  have hl := lv_entry ([.int p0, .int p1, .int p2]) (n := 5) (Nat.le_of_ble_eq_true rfl)
  rw [lg_entry_eq]
  generalize (lg_sl ([.int p0, .int p1, .int p2]) ++ List.replicate (5 - (lg_sl ([.int p0, .int p1, .int p2])).length) Slot.unset).toArray = ls at hl ⊢
  have hl : lv_has ls 5 [(0, .int p0), (1, .int p1), (2, .int p2)] := hl
  have ht := (xX9_thinkOf_s p0 p1 p2).symm.trans ht
  obtain ⟨Q, hQ⟩ : ∃ Q, Q = MQ below (vp_Si (fun x => x = tg ∧ True)) ([.int p0, .int p1, .int p2] : List Value).toArray s 0 0 (fun _ => False) := ⟨_, rfl⟩
  rw [← hQ]
  have L5 : ∀ (n : Nat) (x3 : Int32) (x4 : Int32) (ls : Array Slot) (_ : lv_has ls 5 [(0, .int p0), (1, .int p1), (2, .int p2), (3, .int x3), (4, .int x4)]) (_ : xX9_thinkOf_h5 p0 p1 p2 n x3 x4 = some tg), W p l e (headSpec wsX9_thinkOf rmX9_thinkOf).room s m ([.int p0, .int p1, .int p2] : List Value).toArray below meth c s.heap [] 0 0 Q (F0 m 5 ls []) := by
    intro n
    induction n with
    | zero =>
      intro x3 x4 ls hl ht
      exact it_z ht
    | succ n5 ih5 =>
      intro x3 x4 ls hl ht
      have ht := (xX9_thinkOf_h5_s p0 p1 p2 n5 x3 x4).symm.trans ht
      refine lv_iload hx hb dX9_thinkOf_5 (lv_at hl 4 rfl) ?_
      refine lv_iconst (v := 4) hx hb dX9_thinkOf_7 (by decide) ?_
      refine lv_icmp_ge (tgt := 44) hx hb dX9_thinkOf_8 (by decide) (fun c1 => ?_) (fun c1 => ?_)
      · have ht := it_p c1 ht
        refine lv_iload_n hx hb dX9_thinkOf_44 rfl (lv_at hl 3 rfl) ?_
        subst hQ
        have ht := Option.some.inj ht
        exact W.iret (v := x3) hx hb hr (fun t e1 hW => ⟨_, rfl, ⟨ht, trivial⟩, e1⟩) (fun q h => absurd h List.not_mem_nil) dX9_thinkOf_45
      · have ht := it_n c1 ht
        refine lv_iload_n hx hb dX9_thinkOf_11 rfl (lv_at hl 3 rfl) ?_
        refine lv_iload_n hx hb dX9_thinkOf_12 rfl (lv_at hl 1 rfl) ?_
        refine lv_iload hx hb dX9_thinkOf_13 (lv_at hl 4 rfl) ?_
        refine q_ri (va_runS (As := [.int p1, .int x4]) (rest := [.int x3]) ⟨hx, hb, hml, hown, hts⟩ (kX9_has l D cI cZ cO p1 x4) (va_cwS 2 hts gX9_thinkOf_X9_has rfl rfl rfl (by decide +kernel) ⟨Nat.le_of_ble_eq_true rfl, Nat.le_of_ble_eq_true rfl⟩) (q_rS hE q_nil) rfl rfl hl.1 rfl (lv_room (Nat.le_of_ble_eq_true rfl)) dX9_thinkOf_15 ⟨Nat.le_of_ble_eq_true rfl, Nat.le_of_ble_eq_true rfl⟩) (fun b2 => ?_)
        refine lv_if_eq (tgt := 35) hx hb dX9_thinkOf_18 (by decide) (fun c3 => ?_) (fun c3 => ?_)
        · have ht := it_p c3 ht
          refine lv_iconst (v := 0) hx hb dX9_thinkOf_35 (by decide) ?_
          refine lv_iadd hx hb dX9_thinkOf_36 ?_
          refine lv_istore_n (lv' := [(3, .int (x3 + 0)), (0, .int p0), (1, .int p1), (2, .int p2), (4, .int x4)]) hx hb dX9_thinkOf_37 rfl hl (by decide) rfl (fun ls hl => ?_)
          refine lv_iinc (v := x4 + 1) (lv' := [(4, .int (x4 + 1)), (3, .int (x3 + 0)), (0, .int p0), (1, .int p1), (2, .int p2)]) hx hb dX9_thinkOf_38 hl (k := 4) rfl rfl (by decide) rfl (fun ls hl => ?_)
          refine lv_goto (tgt := 5) hx hb dX9_thinkOf_41 (by decide) ?_
          exact ih5 (x3 + 0) (x4 + 1) ls (lv_sub hl [2, 3, 4, 1, 0] rfl) ht
        · have ht := it_n c3 ht
          refine lv_iload_n hx hb dX9_thinkOf_21 rfl (lv_at hl 0 rfl) ?_
          refine lv_iload hx hb dX9_thinkOf_22 (lv_at hl 4 rfl) ?_
          refine q_ri (va_runS (As := [.int p0, .int x4]) (rest := [.int x3]) ⟨hx, hb, hml, hown, hts⟩ (kX9_ofWhom l D cI cZ cO p0 x4) (va_cwS 2 hts gX9_thinkOf_X9_ofWhom rfl rfl rfl (by decide +kernel) ⟨Nat.le_of_ble_eq_true rfl, Nat.le_of_ble_eq_true rfl⟩) (q_rS hE q_nil) rfl rfl hl.1 rfl (lv_room (Nat.le_of_ble_eq_true rfl)) dX9_thinkOf_24 ⟨Nat.le_of_ble_eq_true rfl, Nat.le_of_ble_eq_true rfl⟩) (fun b4 => ?_)
          refine lv_iload_n hx hb dX9_thinkOf_27 rfl (lv_at hl 2 rfl) ?_
          refine lv_icmp_ne (tgt := 35) hx hb dX9_thinkOf_28 (by decide) (fun c5 => ?_) (fun c5 => ?_)
          · have ht := it_n c5 ht
            refine lv_iconst (v := 0) hx hb dX9_thinkOf_35 (by decide) ?_
            refine lv_iadd hx hb dX9_thinkOf_36 ?_
            refine lv_istore_n (lv' := [(3, .int (x3 + 0)), (0, .int p0), (1, .int p1), (2, .int p2), (4, .int x4)]) hx hb dX9_thinkOf_37 rfl hl (by decide) rfl (fun ls hl => ?_)
            refine lv_iinc (v := x4 + 1) (lv' := [(4, .int (x4 + 1)), (3, .int (x3 + 0)), (0, .int p0), (1, .int p1), (2, .int p2)]) hx hb dX9_thinkOf_38 hl (k := 4) rfl rfl (by decide) rfl (fun ls hl => ?_)
            refine lv_goto (tgt := 5) hx hb dX9_thinkOf_41 (by decide) ?_
            exact ih5 (x3 + 0) (x4 + 1) ls (lv_sub hl [2, 3, 4, 1, 0] rfl) ht
          · have ht := it_p c5 ht
            refine lv_iconst (v := 1) hx hb dX9_thinkOf_31 (by decide) ?_
            refine lv_goto (tgt := 36) hx hb dX9_thinkOf_32 (by decide) ?_
            refine lv_iadd hx hb dX9_thinkOf_36 ?_
            refine lv_istore_n (lv' := [(3, .int (x3 + 1)), (0, .int p0), (1, .int p1), (2, .int p2), (4, .int x4)]) hx hb dX9_thinkOf_37 rfl hl (by decide) rfl (fun ls hl => ?_)
            refine lv_iinc (v := x4 + 1) (lv' := [(4, .int (x4 + 1)), (3, .int (x3 + 1)), (0, .int p0), (1, .int p1), (2, .int p2)]) hx hb dX9_thinkOf_38 hl (k := 4) rfl rfl (by decide) rfl (fun ls hl => ?_)
            refine lv_goto (tgt := 5) hx hb dX9_thinkOf_41 (by decide) ?_
            exact ih5 (x3 + 1) (x4 + 1) ls (lv_sub hl [2, 3, 4, 1, 0] rfl) ht
  refine lv_iconst (v := 0) hx hb dX9_thinkOf_0 (by decide) ?_
  refine lv_istore_n (lv' := [(3, .int 0), (0, .int p0), (1, .int p1), (2, .int p2)]) hx hb dX9_thinkOf_1 rfl hl (by decide) rfl (fun ls hl => ?_)
  refine lv_iconst (v := 0) hx hb dX9_thinkOf_2 (by decide) ?_
  refine lv_istore (lv' := [(4, .int 0), (3, .int 0), (0, .int p0), (1, .int p1), (2, .int p2)]) hx hb dX9_thinkOf_3 hl (by decide) rfl (fun ls hl => ?_)
  exact L5 5000 0 0 ls (lv_sub hl [2, 3, 4, 1, 0] rfl) ht
abbrev rmX9_isFit : Room := { frames := 2, cells := 0, slots := 0, locals := 45 }
set_option maxHeartbeats 4000000 in
set_option maxRecDepth 100000 in
theorem kX9_isFit (l : Launch) (D : va_G) (cI cZ cO : ClassId) (d0 : Nat → Nat) (S0 : St) (p0 : Int32) (tg : Int32) (ht : xX9_isFit S0 p0 = some tg) : Met l yX9_isFit wsX9_isFit rmX9_isFit (q_PR D cI cZ cO [.ref (d0 0), .int p0] (wg9 cI cZ d0 S0)) (vp_Si (fun x => x = tg ∧ narrow .boolean (.int x) = .int x)) 0 0 (fun _ => False) := by
  refine Met.ofW (cc := cX9_isFit) (maxL := 4) (ret := (some .boolean)) (by decide) rfl ?_
  intro p e s m args below meth c s₁ B hml hv
  obtain ⟨rfl, hE, hP⟩ := hv
  have hx := B.exec
  have hb := B.bytes
  have hr := B.returns
  have hts := atoms_spec (ws := wsX9_isFit) B.pre
  have hown : s.vm.findClass RX9 = some m.cls := findClass_of_methodNamed B.named
  have hlocks := B.notSynchronized
  have hi9 : ∀ w ∈ u_ws RX9 TX9 37, w ∈ wsX9_isFit := by decide +kernel
  have hw0 := hts (.fieldLink RX9 285 "HailNamesModel" "sights" "I") (by decide +kernel)
  have hw1 := hts (.fieldLink RX9 37 "HailNamesModel" "sightSet" "[I") (by decide +kernel)
  have hw2 := hts (.fieldLink RX9 40 "HailNamesModel" "sightOf" "[I") (by decide +kernel)
  have hw3 := hts (.fieldLink RX9 43 "HailNamesModel" "sightMany" "[I") (by decide +kernel)
  have hl := lv_entry ([.ref (d0 0), .int p0]) (n := 4) (Nat.le_of_ble_eq_true rfl)
  rw [lg_entry_eq]
  generalize (lg_sl ([.ref (d0 0), .int p0]) ++ List.replicate (4 - (lg_sl ([.ref (d0 0), .int p0])).length) Slot.unset).toArray = ls at hl ⊢
  have hl : lv_has ls 4 [(0, .ref (d0 0)), (1, .int p0)] := hl
  have ht := (xX9_isFit_s S0 p0).symm.trans ht
  obtain ⟨Q, hQ⟩ : ∃ Q, Q = MQ below (vp_Si (fun x => x = tg ∧ narrow .boolean (.int x) = .int x)) ([.ref (d0 0), .int p0] : List Value).toArray s 0 0 (fun _ => False) := ⟨_, rfl⟩
  rw [← hQ]
  have L4 : ∀ (n : Nat) (x2 : Int32) (x3 : Int32) (ls : Array Slot) (_ : lv_has ls 4 [(0, .ref (d0 0)), (1, .int p0), (2, .int x2), (3, .int x3)]) (_ : xX9_isFit_h4 S0 p0 n x2 x3 = some tg), W p l e (headSpec wsX9_isFit rmX9_isFit).room s m ([.ref (d0 0), .int p0] : List Value).toArray below meth c s.heap [] 0 0 Q (F0 m 4 ls []) := by
    intro n
    induction n with
    | zero =>
      intro x2 x3 ls hl ht
      exact it_z ht
    | succ n4 ih4 =>
      intro x2 x3 ls hl ht
      have ht := (xX9_isFit_h4_s S0 p0 n4 x2 x3).symm.trans ht
      have L36 : ∀ (n : Nat) (x2 : Int32) (x3 : Int32) (ls : Array Slot) (_ : lv_has ls 4 [(0, .ref (d0 0)), (1, .int p0), (2, .int x2), (3, .int x3)]) (_ : xX9_isFit_h36 S0 p0 n x2 x3 = some tg), W p l e (headSpec wsX9_isFit rmX9_isFit).room s m ([.ref (d0 0), .int p0] : List Value).toArray below meth c s.heap [] 0 0 Q (F0 m 36 ls []) := by
        intro n
        induction n with
        | zero =>
          intro x2 x3 ls hl ht
          exact it_z ht
        | succ n36 ih36 =>
          intro x2 x3 ls hl ht
          have ht := (xX9_isFit_h36_s S0 p0 n36 x2 x3).symm.trans ht
          refine lv_iload_n hx hb dX9_isFit_36 rfl (lv_at hl 3 rfl) ?_
          refine lv_aload_n hx hb dX9_isFit_37 rfl (lv_at hl 0 rfl) ?_
          refine va_get (D := D) (ci := 9) (v := .int (S0 14 0)) (C := RX9) (T := TX9) (N := 37) hx hb hts hi9 hown hE.1 hP 0 rfl rfl 14 (by decide) hw0 (fun _ h9 => h9) rfl dX9_isFit_38 ?_
          refine lv_icmp_ge (tgt := 85) hx hb dX9_isFit_41 (by decide) (fun c5 => ?_) (fun c5 => ?_)
          · have ht := it_p c5 ht
            refine lv_iload_n hx hb dX9_isFit_85 rfl (lv_at hl 2 rfl) ?_
            obtain ⟨g6, ht⟩ := it_g ht
            subst hQ
            have ht := Option.some.inj ht
            exact W.zret (v := x2) (ty := .boolean) hx hb hr (q_zn g6) (fun t e1 hW => ⟨_, rfl, ⟨ht, (q_zn g6)⟩, e1⟩) (fun q h => absurd h List.not_mem_nil) dX9_isFit_86
          · have ht := it_n c5 ht
            refine lv_iload_n hx hb dX9_isFit_44 rfl (lv_at hl 2 rfl) ?_
            refine lv_if_eq (tgt := 77) hx hb dX9_isFit_45 (by decide) (fun c7 => ?_) (fun c7 => ?_)
            · have ht := it_p c7 ht
              refine lv_iconst (v := 0) hx hb dX9_isFit_77 (by decide) ?_
              refine lv_istore_n (lv' := [(2, .int 0), (0, .ref (d0 0)), (1, .int p0), (3, .int x3)]) hx hb dX9_isFit_78 rfl hl (by decide) rfl (fun ls hl => ?_)
              refine lv_iinc (v := x3 + 1) (lv' := [(3, .int (x3 + 1)), (2, .int 0), (0, .ref (d0 0)), (1, .int p0)]) hx hb dX9_isFit_79 hl (k := 3) rfl rfl (by decide) rfl (fun ls hl => ?_)
              refine lv_goto (tgt := 36) hx hb dX9_isFit_82 (by decide) ?_
              exact ih36 0 (x3 + 1) ls (lv_sub hl [2, 3, 1, 0] rfl) ht
            · have ht := it_n c7 ht
              refine lv_iload_n hx hb dX9_isFit_48 rfl (lv_at hl 1 rfl) ?_
              refine lv_aload_n hx hb dX9_isFit_49 rfl (lv_at hl 0 rfl) ?_
              refine va_get (D := D) (ci := 9) (v := .ref (d0 12)) (C := RX9) (T := TX9) (N := 37) hx hb hts hi9 hown hE.1 hP 0 rfl rfl 11 (by decide) hw1 (fun _ h9 => h9) rfl dX9_isFit_50 ?_
              refine lv_iload_n hx hb dX9_isFit_53 rfl (lv_at hl 3 rfl) ?_
              obtain ⟨g8, ht⟩ := it_g ht
              refine va_iald hx hb hE.1 hP 10 0 rfl rfl (q_in g8) dX9_isFit_54 ?_
              refine lv_aload_n hx hb dX9_isFit_55 rfl (lv_at hl 0 rfl) ?_
              refine va_get (D := D) (ci := 9) (v := .ref (d0 13)) (C := RX9) (T := TX9) (N := 37) hx hb hts hi9 hown hE.1 hP 0 rfl rfl 12 (by decide) hw2 (fun _ h9 => h9) rfl dX9_isFit_56 ?_
              refine lv_iload_n hx hb dX9_isFit_59 rfl (lv_at hl 3 rfl) ?_
              refine va_iald hx hb hE.1 hP 11 0 rfl rfl (q_in g8) dX9_isFit_60 ?_
              obtain ⟨q9, hq9, ht⟩ := it_b ht
              refine q_ri (va_runS (As := [.int p0, .int (S0 11 x3.toNatClampNeg), .int (S0 12 x3.toNatClampNeg)]) (rest := []) ⟨hx, hb, hml, hown, hts⟩ (kX9_thinkOf l D cI cZ cO p0 (S0 11 x3.toNatClampNeg) (S0 12 x3.toNatClampNeg) q9 hq9) (va_cwS 3 hts gX9_isFit_X9_thinkOf rfl rfl rfl (by decide +kernel) ⟨Nat.le_of_ble_eq_true rfl, Nat.le_of_ble_eq_true rfl⟩) (q_rS hE q_nil) rfl rfl hl.1 rfl (lv_room (Nat.le_of_ble_eq_true rfl)) dX9_isFit_61 ⟨Nat.le_of_ble_eq_true rfl, Nat.le_of_ble_eq_true rfl⟩) (fun b10 => ?_)
              refine lv_aload_n hx hb dX9_isFit_64 rfl (lv_at hl 0 rfl) ?_
              refine va_get (D := D) (ci := 9) (v := .ref (d0 14)) (C := RX9) (T := TX9) (N := 37) hx hb hts hi9 hown hE.1 hP 0 rfl rfl 13 (by decide) hw3 (fun _ h9 => h9) rfl dX9_isFit_65 ?_
              refine lv_iload_n hx hb dX9_isFit_68 rfl (lv_at hl 3 rfl) ?_
              refine va_iald hx hb hE.1 hP 12 0 rfl rfl (q_in g8) dX9_isFit_69 ?_
              refine lv_icmp_ne (tgt := 77) hx hb dX9_isFit_70 (by decide) (fun c11 => ?_) (fun c11 => ?_)
              · have ht := it_n c11 ht
                refine lv_iconst (v := 0) hx hb dX9_isFit_77 (by decide) ?_
                refine lv_istore_n (lv' := [(2, .int 0), (0, .ref (d0 0)), (1, .int p0), (3, .int x3)]) hx hb dX9_isFit_78 rfl hl (by decide) rfl (fun ls hl => ?_)
                refine lv_iinc (v := x3 + 1) (lv' := [(3, .int (x3 + 1)), (2, .int 0), (0, .ref (d0 0)), (1, .int p0)]) hx hb dX9_isFit_79 hl (k := 3) rfl rfl (by decide) rfl (fun ls hl => ?_)
                refine lv_goto (tgt := 36) hx hb dX9_isFit_82 (by decide) ?_
                exact ih36 0 (x3 + 1) ls (lv_sub hl [2, 3, 1, 0] rfl) ht
              · have ht := it_p c11 ht
                refine lv_iconst (v := 1) hx hb dX9_isFit_73 (by decide) ?_
                refine lv_goto (tgt := 78) hx hb dX9_isFit_74 (by decide) ?_
                refine lv_istore_n (lv' := [(2, .int 1), (0, .ref (d0 0)), (1, .int p0), (3, .int x3)]) hx hb dX9_isFit_78 rfl hl (by decide) rfl (fun ls hl => ?_)
                refine lv_iinc (v := x3 + 1) (lv' := [(3, .int (x3 + 1)), (2, .int 1), (0, .ref (d0 0)), (1, .int p0)]) hx hb dX9_isFit_79 hl (k := 3) rfl rfl (by decide) rfl (fun ls hl => ?_)
                refine lv_goto (tgt := 36) hx hb dX9_isFit_82 (by decide) ?_
                exact ih36 1 (x3 + 1) ls (lv_sub hl [2, 3, 1, 0] rfl) ht
      refine lv_iload_n hx hb dX9_isFit_4 rfl (lv_at hl 3 rfl) ?_
      refine lv_iconst (v := 4) hx hb dX9_isFit_5 (by decide) ?_
      refine lv_icmp_ge (tgt := 34) hx hb dX9_isFit_6 (by decide) (fun c1 => ?_) (fun c1 => ?_)
      · have ht := it_p c1 ht
        refine lv_iconst (v := 0) hx hb dX9_isFit_34 (by decide) ?_
        refine lv_istore_n (lv' := [(3, .int 0), (0, .ref (d0 0)), (1, .int p0), (2, .int x2)]) hx hb dX9_isFit_35 rfl hl (by decide) rfl (fun ls hl => ?_)
        exact L36 5000 x2 0 ls (lv_sub hl [1, 2, 3, 0] rfl) ht
      · have ht := it_n c1 ht
        refine lv_iload_n hx hb dX9_isFit_9 rfl (lv_at hl 2 rfl) ?_
        refine lv_if_eq (tgt := 26) hx hb dX9_isFit_10 (by decide) (fun c2 => ?_) (fun c2 => ?_)
        · have ht := it_p c2 ht
          refine lv_iconst (v := 0) hx hb dX9_isFit_26 (by decide) ?_
          refine lv_istore_n (lv' := [(2, .int 0), (0, .ref (d0 0)), (1, .int p0), (3, .int x3)]) hx hb dX9_isFit_27 rfl hl (by decide) rfl (fun ls hl => ?_)
          refine lv_iinc (v := x3 + 1) (lv' := [(3, .int (x3 + 1)), (2, .int 0), (0, .ref (d0 0)), (1, .int p0)]) hx hb dX9_isFit_28 hl (k := 3) rfl rfl (by decide) rfl (fun ls hl => ?_)
          refine lv_goto (tgt := 4) hx hb dX9_isFit_31 (by decide) ?_
          exact ih4 0 (x3 + 1) ls (lv_sub hl [2, 3, 1, 0] rfl) ht
        · have ht := it_n c2 ht
          refine lv_iload_n hx hb dX9_isFit_13 rfl (lv_at hl 1 rfl) ?_
          refine lv_iload_n hx hb dX9_isFit_14 rfl (lv_at hl 3 rfl) ?_
          refine q_ri (va_runS (As := [.int p0, .int x3]) (rest := []) ⟨hx, hb, hml, hown, hts⟩ (kX9_ofWhom l D cI cZ cO p0 x3) (va_cwS 2 hts gX9_isFit_X9_ofWhom rfl rfl rfl (by decide +kernel) ⟨Nat.le_of_ble_eq_true rfl, Nat.le_of_ble_eq_true rfl⟩) (q_rS hE q_nil) rfl rfl hl.1 rfl (lv_room (Nat.le_of_ble_eq_true rfl)) dX9_isFit_15 ⟨Nat.le_of_ble_eq_true rfl, Nat.le_of_ble_eq_true rfl⟩) (fun b3 => ?_)
          refine lv_iload_n hx hb dX9_isFit_18 rfl (lv_at hl 3 rfl) ?_
          refine lv_icmp_eq (tgt := 26) hx hb dX9_isFit_19 (by decide) (fun c4 => ?_) (fun c4 => ?_)
          · have ht := it_p c4 ht
            refine lv_iconst (v := 0) hx hb dX9_isFit_26 (by decide) ?_
            refine lv_istore_n (lv' := [(2, .int 0), (0, .ref (d0 0)), (1, .int p0), (3, .int x3)]) hx hb dX9_isFit_27 rfl hl (by decide) rfl (fun ls hl => ?_)
            refine lv_iinc (v := x3 + 1) (lv' := [(3, .int (x3 + 1)), (2, .int 0), (0, .ref (d0 0)), (1, .int p0)]) hx hb dX9_isFit_28 hl (k := 3) rfl rfl (by decide) rfl (fun ls hl => ?_)
            refine lv_goto (tgt := 4) hx hb dX9_isFit_31 (by decide) ?_
            exact ih4 0 (x3 + 1) ls (lv_sub hl [2, 3, 1, 0] rfl) ht
          · have ht := it_n c4 ht
            refine lv_iconst (v := 1) hx hb dX9_isFit_22 (by decide) ?_
            refine lv_goto (tgt := 27) hx hb dX9_isFit_23 (by decide) ?_
            refine lv_istore_n (lv' := [(2, .int 1), (0, .ref (d0 0)), (1, .int p0), (3, .int x3)]) hx hb dX9_isFit_27 rfl hl (by decide) rfl (fun ls hl => ?_)
            refine lv_iinc (v := x3 + 1) (lv' := [(3, .int (x3 + 1)), (2, .int 1), (0, .ref (d0 0)), (1, .int p0)]) hx hb dX9_isFit_28 hl (k := 3) rfl rfl (by decide) rfl (fun ls hl => ?_)
            refine lv_goto (tgt := 4) hx hb dX9_isFit_31 (by decide) ?_
            exact ih4 1 (x3 + 1) ls (lv_sub hl [2, 3, 1, 0] rfl) ht
  refine lv_iconst (v := 1) hx hb dX9_isFit_0 (by decide) ?_
  refine lv_istore_n (lv' := [(2, .int 1), (0, .ref (d0 0)), (1, .int p0)]) hx hb dX9_isFit_1 rfl hl (by decide) rfl (fun ls hl => ?_)
  refine lv_iconst (v := 0) hx hb dX9_isFit_2 (by decide) ?_
  refine lv_istore_n (lv' := [(3, .int 0), (2, .int 1), (0, .ref (d0 0)), (1, .int p0)]) hx hb dX9_isFit_3 rfl hl (by decide) rfl (fun ls hl => ?_)
  exact L4 5000 1 0 ls (lv_sub hl [2, 3, 1, 0] rfl) ht
abbrev rmX9_rowOf : Room := { frames := 1, cells := 0, slots := 0, locals := 21 }
set_option maxHeartbeats 4000000 in
set_option maxRecDepth 100000 in
theorem kX9_rowOf (l : Launch) (D : va_G) (cI cZ cO : ClassId) (p0 : Int32) : Met l yX9_rowOf wsX9_rowOf rmX9_rowOf (q_PR D cI cZ cO [.int p0] ([] : va_W)) (vp_Si (fun x => x = xX9_rowOf p0 ∧ True)) 0 0 (fun _ => False) := by
  refine Met.ofW (cc := cX9_rowOf) (maxL := 1) (ret := (some .int)) (by decide) rfl ?_
  intro p e s m args below meth c s₁ B hml hv
  obtain ⟨rfl, hE, hP⟩ := hv
  have hx := B.exec
  have hb := B.bytes
  have hr := B.returns
  have hts := atoms_spec (ws := wsX9_rowOf) B.pre
  have hown : s.vm.findClass RX9 = some m.cls := findClass_of_methodNamed B.named
  have hlocks := B.notSynchronized
  have hl := lv_entry ([.int p0]) (n := 1) (Nat.le_of_ble_eq_true rfl)
  rw [lg_entry_eq]
  generalize (lg_sl ([.int p0]) ++ List.replicate (1 - (lg_sl ([.int p0])).length) Slot.unset).toArray = ls at hl ⊢
  have hl : lv_has ls 1 [(0, .int p0)] := hl
  have ht := xX9_rowOf_s p0
  obtain ⟨tg, htg⟩ : ∃ z, z = xX9_rowOf p0 := ⟨_, rfl⟩
  rw [← htg] at ht ⊢
  have ht := ht.symm
  refine lv_sipush (v := 1000) hx hb dX9_rowOf_0 (by decide +kernel) ?_
  refine lv_iload_n hx hb dX9_rowOf_3 rfl (lv_at hl 0 rfl) ?_
  refine lv_iconst (v := 0) hx hb dX9_rowOf_4 (by decide) ?_
  refine q_ri (va_runS (As := [.int p0, .int 0]) (rest := [.int 1000]) ⟨hx, hb, hml, hown, hts⟩ (kX9_ofWhom l D cI cZ cO p0 0) (va_cwS 2 hts gX9_rowOf_X9_ofWhom rfl rfl rfl (by decide +kernel) ⟨Nat.le_of_ble_eq_true rfl, Nat.le_of_ble_eq_true rfl⟩) (q_rS hE q_nil) rfl rfl hl.1 rfl (lv_room (Nat.le_of_ble_eq_true rfl)) dX9_rowOf_5 ⟨Nat.le_of_ble_eq_true rfl, Nat.le_of_ble_eq_true rfl⟩) (fun b1 => ?_)
  refine lv_imul hx hb dX9_rowOf_8 ?_
  refine lv_bipush (v := 100) hx hb dX9_rowOf_9 (by decide) ?_
  refine lv_iload_n hx hb dX9_rowOf_11 rfl (lv_at hl 0 rfl) ?_
  refine lv_iconst (v := 1) hx hb dX9_rowOf_12 (by decide) ?_
  refine q_ri (va_runS (As := [.int p0, .int 1]) (rest := [.int 100, .int (1000 * (xX9_ofWhom p0 0))]) ⟨hx, hb, hml, hown, hts⟩ (kX9_ofWhom l D cI cZ cO p0 1) (va_cwS 2 hts gX9_rowOf_X9_ofWhom rfl rfl rfl (by decide +kernel) ⟨Nat.le_of_ble_eq_true rfl, Nat.le_of_ble_eq_true rfl⟩) (q_rS hE q_nil) rfl rfl hl.1 rfl (lv_room (Nat.le_of_ble_eq_true rfl)) dX9_rowOf_13 ⟨Nat.le_of_ble_eq_true rfl, Nat.le_of_ble_eq_true rfl⟩) (fun b2 => ?_)
  refine lv_imul hx hb dX9_rowOf_16 ?_
  refine lv_iadd hx hb dX9_rowOf_17 ?_
  refine lv_bipush (v := 10) hx hb dX9_rowOf_18 (by decide) ?_
  refine lv_iload_n hx hb dX9_rowOf_20 rfl (lv_at hl 0 rfl) ?_
  refine lv_iconst (v := 2) hx hb dX9_rowOf_21 (by decide) ?_
  refine q_ri (va_runS (As := [.int p0, .int 2]) (rest := [.int 10, .int ((1000 * (xX9_ofWhom p0 0)) + (100 * (xX9_ofWhom p0 1)))]) ⟨hx, hb, hml, hown, hts⟩ (kX9_ofWhom l D cI cZ cO p0 2) (va_cwS 2 hts gX9_rowOf_X9_ofWhom rfl rfl rfl (by decide +kernel) ⟨Nat.le_of_ble_eq_true rfl, Nat.le_of_ble_eq_true rfl⟩) (q_rS hE q_nil) rfl rfl hl.1 rfl (lv_room (Nat.le_of_ble_eq_true rfl)) dX9_rowOf_22 ⟨Nat.le_of_ble_eq_true rfl, Nat.le_of_ble_eq_true rfl⟩) (fun b3 => ?_)
  refine lv_imul hx hb dX9_rowOf_25 ?_
  refine lv_iadd hx hb dX9_rowOf_26 ?_
  refine lv_iload_n hx hb dX9_rowOf_27 rfl (lv_at hl 0 rfl) ?_
  refine lv_iconst (v := 3) hx hb dX9_rowOf_28 (by decide) ?_
  refine q_ri (va_runS (As := [.int p0, .int 3]) (rest := [.int (((1000 * (xX9_ofWhom p0 0)) + (100 * (xX9_ofWhom p0 1))) + (10 * (xX9_ofWhom p0 2)))]) ⟨hx, hb, hml, hown, hts⟩ (kX9_ofWhom l D cI cZ cO p0 3) (va_cwS 2 hts gX9_rowOf_X9_ofWhom rfl rfl rfl (by decide +kernel) ⟨Nat.le_of_ble_eq_true rfl, Nat.le_of_ble_eq_true rfl⟩) (q_rS hE q_nil) rfl rfl hl.1 rfl (lv_room (Nat.le_of_ble_eq_true rfl)) dX9_rowOf_29 ⟨Nat.le_of_ble_eq_true rfl, Nat.le_of_ble_eq_true rfl⟩) (fun b4 => ?_)
  refine lv_iadd hx hb dX9_rowOf_32 ?_
  exact W.iret (v := (((1000 * (xX9_ofWhom p0 0)) + (100 * (xX9_ofWhom p0 1))) + (10 * (xX9_ofWhom p0 2))) + (xX9_ofWhom p0 3)) hx hb hr (fun t e1 hW => ⟨_, rfl, ⟨ht, trivial⟩, e1⟩) (fun q h => absurd h List.not_mem_nil) dX9_rowOf_33
abbrev rmX9_nets : Room := { frames := 3, cells := 0, slots := 0, locals := 68 }
set_option maxHeartbeats 4000000 in
set_option maxRecDepth 100000 in
theorem kX9_nets (l : Launch) (D : va_G) (cI cZ cO : ClassId) (d0 : Nat → Nat) (S0 : St) (p0 : Int32) (tg : Int32) (ht : xX9_nets S0 p0 = some tg) : Met l yX9_nets wsX9_nets rmX9_nets (q_PR D cI cZ cO [.ref (d0 0), .int p0] (wg9 cI cZ d0 S0)) (vp_Si (fun x => x = tg ∧ True)) 0 0 (fun _ => False) := by
  refine Met.ofW (cc := cX9_nets) (maxL := 4) (ret := (some .int)) (by decide) rfl ?_
  intro p e s m args below meth c s₁ B hml hv
  obtain ⟨rfl, hE, hP⟩ := hv
  have hx := B.exec
  have hb := B.bytes
  have hr := B.returns
  have hts := atoms_spec (ws := wsX9_nets) B.pre
  have hown : s.vm.findClass RX9 = some m.cls := findClass_of_methodNamed B.named
  have hlocks := B.notSynchronized
  have hl := lv_entry ([.ref (d0 0), .int p0]) (n := 4) (Nat.le_of_ble_eq_true rfl)
  rw [lg_entry_eq]
  generalize (lg_sl ([.ref (d0 0), .int p0]) ++ List.replicate (4 - (lg_sl ([.ref (d0 0), .int p0])).length) Slot.unset).toArray = ls at hl ⊢
  have hl : lv_has ls 4 [(0, .ref (d0 0)), (1, .int p0)] := hl
  have ht := (xX9_nets_s S0 p0).symm.trans ht
  obtain ⟨Q, hQ⟩ : ∃ Q, Q = MQ below (vp_Si (fun x => x = tg ∧ True)) ([.ref (d0 0), .int p0] : List Value).toArray s 0 0 (fun _ => False) := ⟨_, rfl⟩
  rw [← hQ]
  have L4 : ∀ (n : Nat) (x2 : Int32) (x3 : Int32) (ls : Array Slot) (_ : lv_has ls 4 [(0, .ref (d0 0)), (1, .int p0), (2, .int x2), (3, .int x3)]) (_ : xX9_nets_h4 S0 p0 n x2 x3 = some tg), W p l e (headSpec wsX9_nets rmX9_nets).room s m ([.ref (d0 0), .int p0] : List Value).toArray below meth c s.heap [] 0 0 Q (F0 m 4 ls []) := by
    intro n
    induction n with
    | zero =>
      intro x2 x3 ls hl ht
      exact it_z ht
    | succ n4 ih4 =>
      intro x2 x3 ls hl ht
      have ht := (xX9_nets_h4_s S0 p0 n4 x2 x3).symm.trans ht
      refine lv_iload_n hx hb dX9_nets_4 rfl (lv_at hl 3 rfl) ?_
      refine lv_sipush (v := 256) hx hb dX9_nets_5 (by decide +kernel) ?_
      refine lv_icmp_ge (tgt := 38) hx hb dX9_nets_8 (by decide) (fun c1 => ?_) (fun c1 => ?_)
      · have ht := it_p c1 ht
        refine lv_iload_n hx hb dX9_nets_38 rfl (lv_at hl 1 rfl) ?_
        refine lv_iconst (v := (-1)) hx hb dX9_nets_39 (by decide) ?_
        refine lv_icmp_ne (tgt := 47) hx hb dX9_nets_40 (by decide) (fun c2 => ?_) (fun c2 => ?_)
        · have ht := it_n c2 ht
          refine lv_bipush (v := (-6)) hx hb dX9_nets_47 (by decide) ?_
          subst hQ
          have ht := Option.some.inj ht
          exact W.iret (v := (-6)) hx hb hr (fun t e1 hW => ⟨_, rfl, ⟨ht, trivial⟩, e1⟩) (fun q h => absurd h List.not_mem_nil) dX9_nets_49
        · have ht := it_p c2 ht
          refine lv_iload_n hx hb dX9_nets_43 rfl (lv_at hl 2 rfl) ?_
          refine lv_goto (tgt := 49) hx hb dX9_nets_44 (by decide) ?_
          subst hQ
          have ht := Option.some.inj ht
          exact W.iret (v := x2) hx hb hr (fun t e1 hW => ⟨_, rfl, ⟨ht, trivial⟩, e1⟩) (fun q h => absurd h List.not_mem_nil) dX9_nets_49
      · have ht := it_n c1 ht
        refine lv_aload_n hx hb dX9_nets_11 rfl (lv_at hl 0 rfl) ?_
        refine lv_iload_n hx hb dX9_nets_12 rfl (lv_at hl 3 rfl) ?_
        obtain ⟨q3, hq3, ht⟩ := it_b ht
        refine q_ri (va_runV (As := [.int x3]) (rest := []) ⟨hx, hb, hml, hown, hts⟩ (kX9_isFit l D cI cZ cO d0 S0 x3 q3 hq3) (cwV 1 hts gX9_nets_X9_isFit rfl rfl rfl (by decide +kernel) ⟨Nat.le_of_ble_eq_true rfl, Nat.le_of_ble_eq_true rfl⟩) (q_rV (As := [.int x3]) hE hP (q0 := 0) (ci := 9) rfl rfl) rfl rfl hl.1 rfl (lv_room (Nat.le_of_ble_eq_true rfl)) dX9_nets_13 ⟨Nat.le_of_ble_eq_true rfl, Nat.le_of_ble_eq_true rfl⟩) (fun b4 => ?_)
        refine lv_if_eq (tgt := 32) hx hb dX9_nets_16 (by decide) (fun c5 => ?_) (fun c5 => ?_)
        · have ht := it_p c5 ht
          refine lv_iinc (v := x3 + 1) (lv' := [(3, .int (x3 + 1)), (0, .ref (d0 0)), (1, .int p0), (2, .int x2)]) hx hb dX9_nets_32 hl (k := 3) rfl rfl (by decide) rfl (fun ls hl => ?_)
          refine lv_goto (tgt := 4) hx hb dX9_nets_35 (by decide) ?_
          exact ih4 x2 (x3 + 1) ls (lv_sub hl [1, 2, 3, 0] rfl) ht
        · have ht := it_n c5 ht
          refine lv_iload_n hx hb dX9_nets_19 rfl (lv_at hl 2 rfl) ?_
          refine lv_iload_n hx hb dX9_nets_20 rfl (lv_at hl 1 rfl) ?_
          refine lv_icmp_ne (tgt := 29) hx hb dX9_nets_21 (by decide) (fun c6 => ?_) (fun c6 => ?_)
          · have ht := it_n c6 ht
            refine lv_iinc (v := x2 + 1) (lv' := [(2, .int (x2 + 1)), (0, .ref (d0 0)), (1, .int p0), (3, .int x3)]) hx hb dX9_nets_29 hl (k := 2) rfl rfl (by decide) rfl (fun ls hl => ?_)
            refine lv_iinc (v := x3 + 1) (lv' := [(3, .int (x3 + 1)), (2, .int (x2 + 1)), (0, .ref (d0 0)), (1, .int p0)]) hx hb dX9_nets_32 hl (k := 3) rfl rfl (by decide) rfl (fun ls hl => ?_)
            refine lv_goto (tgt := 4) hx hb dX9_nets_35 (by decide) ?_
            exact ih4 (x2 + 1) (x3 + 1) ls (lv_sub hl [2, 3, 1, 0] rfl) ht
          · have ht := it_p c6 ht
            refine lv_iload_n hx hb dX9_nets_24 rfl (lv_at hl 3 rfl) ?_
            refine q_ri (va_runS (As := [.int x3]) (rest := []) ⟨hx, hb, hml, hown, hts⟩ (kX9_rowOf l D cI cZ cO x3) (va_cwS 1 hts gX9_nets_X9_rowOf rfl rfl rfl (by decide +kernel) ⟨Nat.le_of_ble_eq_true rfl, Nat.le_of_ble_eq_true rfl⟩) (q_rS hE q_nil) rfl rfl hl.1 rfl (lv_room (Nat.le_of_ble_eq_true rfl)) dX9_nets_25 ⟨Nat.le_of_ble_eq_true rfl, Nat.le_of_ble_eq_true rfl⟩) (fun b7 => ?_)
            subst hQ
            have ht := Option.some.inj ht
            exact W.iret (v := xX9_rowOf x3) hx hb hr (fun t e1 hW => ⟨_, rfl, ⟨ht, trivial⟩, e1⟩) (fun q h => absurd h List.not_mem_nil) dX9_nets_28
  refine lv_iconst (v := 0) hx hb dX9_nets_0 (by decide) ?_
  refine lv_istore_n (lv' := [(2, .int 0), (0, .ref (d0 0)), (1, .int p0)]) hx hb dX9_nets_1 rfl hl (by decide) rfl (fun ls hl => ?_)
  refine lv_iconst (v := 0) hx hb dX9_nets_2 (by decide) ?_
  refine lv_istore_n (lv' := [(3, .int 0), (2, .int 0), (0, .ref (d0 0)), (1, .int p0)]) hx hb dX9_nets_3 rfl hl (by decide) rfl (fun ls hl => ?_)
  exact L4 5000 0 0 ls (lv_sub hl [2, 3, 1, 0] rfl) ht
abbrev rmX9_mostLeft : Room := { frames := 3, cells := 0, slots := 0, locals := 68 }
set_option maxHeartbeats 4000000 in
set_option maxRecDepth 100000 in
theorem kX9_mostLeft (l : Launch) (D : va_G) (cI cZ cO : ClassId) (d0 : Nat → Nat) (sz : Nat) (S0 : St) (p0 : Int32) (p1 : Int32) (tg : Int32 × St) (ht : xX9_mostLeft p0 p1 S0 = some tg) : Met l yX9_mostLeft wsX9_mostLeft rmX9_mostLeft (q_PM D cI cZ cO [.ref (d0 0), .int p0, .int p1] sz (wg9 cI cZ d0 S0)) (va_Qi (fun x (_ : Unit) => x = tg.1 ∧ True) (fun _ t => va_P D vwCl (wg9 cI cZ d0 tg.2) t.heap) (va_A (wg9 cI cZ d0 S0) sz)) 0 0 (va_A (wg9 cI cZ d0 S0) sz) := by
  refine Met.ofW (cc := cX9_mostLeft) (maxL := 6) (ret := (some .int)) (by decide) rfl ?_
  intro p e s m args below meth c s₁ B hml hv
  obtain ⟨rfl, hsz, hE, hP, hD0⟩ := hv
  have hx := B.exec
  have hb := B.bytes
  have hr := B.returns
  have hts := atoms_spec (ws := wsX9_mostLeft) B.pre
  have hown : s.vm.findClass RX9 = some m.cls := findClass_of_methodNamed B.named
  have hlocks := B.notSynchronized
  have hi9 : ∀ w ∈ u_ws RX9 TX9 37, w ∈ wsX9_mostLeft := by decide +kernel
  have hw0 := hts (.fieldLink RX9 64 "HailNamesModel" "byMany" "[I") (by decide +kernel)
  subst hsz
  have hD1 := hD0.self (sz := s.heap.size)
  generalize hAe : va_A (wg9 cI cZ d0 S0) s.heap.size = A at hD1 ⊢
  have hA : ∀ q : Nat, s.heap.size ≤ q → A q := fun q h => by rw [← hAe]; exact Or.inr h
  have hS : va_S A s.heap s.heap [] := va_S.rf
  have hD : ∀ (S0 : St), va_D A (wg9 cI cZ d0 S0) := fun S0 => q_D hD1 rfl
  have hl := lv_entry ([.ref (d0 0), .int p0, .int p1]) (n := 6) (Nat.le_of_ble_eq_true rfl)
  rw [lg_entry_eq]
  generalize (lg_sl ([.ref (d0 0), .int p0, .int p1]) ++ List.replicate (6 - (lg_sl ([.ref (d0 0), .int p0, .int p1])).length) Slot.unset).toArray = ls at hl ⊢
  have hl : lv_has ls 6 [(0, .ref (d0 0)), (1, .int p0), (2, .int p1)] := hl
  have ht := (xX9_mostLeft_s p0 p1 S0).symm.trans ht
  obtain ⟨Q, hQ⟩ : ∃ Q, Q = MQ below (va_Qi (fun x (_ : Unit) => x = tg.1 ∧ True) (fun _ t => va_P D vwCl (wg9 cI cZ d0 tg.2) t.heap) A) ([.ref (d0 0), .int p0, .int p1] : List Value).toArray s 0 0 A := ⟨_, rfl⟩
  rw [← hQ]
  have L5 : ∀ (n : Nat) (x3 : Int32) (x4 : Int32) (S0 : St) (H : Heap) (locs : List Loc) (_ : va_P D vwCl (wg9 cI cZ d0 S0) H) (_ : va_S A s.heap H locs) (ls : Array Slot) (_ : lv_has ls 6 [(0, .ref (d0 0)), (1, .int p0), (2, .int p1), (3, .int x3), (4, .int x4)]) (_ : xX9_mostLeft_h5 p0 p1 n x3 x4 S0 = some tg), W p l e (headSpec wsX9_mostLeft rmX9_mostLeft).room s m ([.ref (d0 0), .int p0, .int p1] : List Value).toArray below meth c H locs 0 0 Q (F0 m 5 ls []) := by
    intro n
    induction n with
    | zero =>
      intro x3 x4 S0 H locs hP hS ls hl ht
      exact it_z ht
    | succ n5 ih5 =>
      intro x3 x4 S0 H locs hP hS ls hl ht
      have ht := (xX9_mostLeft_h5_s p0 p1 n5 x3 x4 S0).symm.trans ht
      have L28 : ∀ (n : Nat) (x3 : Int32) (x4 : Int32) (S0 : St) (H : Heap) (locs : List Loc) (_ : va_P D vwCl (wg9 cI cZ d0 S0) H) (_ : va_S A s.heap H locs) (ls : Array Slot) (_ : lv_has ls 6 [(0, .ref (d0 0)), (1, .int p0), (2, .int p1), (3, .int x3), (4, .int x4)]) (_ : xX9_mostLeft_h28 p0 p1 n x3 x4 S0 = some tg), W p l e (headSpec wsX9_mostLeft rmX9_mostLeft).room s m ([.ref (d0 0), .int p0, .int p1] : List Value).toArray below meth c H locs 0 0 Q (F0 m 28 ls []) := by
        intro n
        induction n with
        | zero =>
          intro x3 x4 S0 H locs hP hS ls hl ht
          exact it_z ht
        | succ n28 ih28 =>
          intro x3 x4 S0 H locs hP hS ls hl ht
          have ht := (xX9_mostLeft_h28_s p0 p1 n28 x3 x4 S0).symm.trans ht
          have J67 : ∀ (x3 : Int32) (x4 : Int32) (x5 : Int32) (z1 : Int32) (z2 : Int32) (z3 : Int32) (S0 : St) (H : Heap) (locs : List Loc) (_ : va_P D vwCl (wg9 cI cZ d0 S0) H) (_ : va_S A s.heap H locs) (ls : Array Slot) (_ : lv_has ls 6 [(0, .ref (d0 0)), (1, .int p0), (2, .int p1), (3, .int x3), (4, .int x4), (5, .int x5)]) (_ : xX9_mostLeft_h67 p0 p1 (xX9_mostLeft_h28 p0 p1 n28) x3 x4 x5 z1 z2 z3 S0 = some tg), W p l e (headSpec wsX9_mostLeft rmX9_mostLeft).room s m ([.ref (d0 0), .int p0, .int p1] : List Value).toArray below meth c H locs 0 0 Q (F0 m 67 ls [.int z3, .int z2, .int z1, .ref (d0 32)]) := by
            intro x3 x4 x5 z1 z2 z3 S0 H locs hP hS ls hl ht
            have ht := (xX9_mostLeft_h67_s p0 p1 (xX9_mostLeft_h28 p0 p1 n28) x3 x4 x5 z1 z2 z3 S0).symm.trans ht
            refine lv_iadd hx hb dX9_mostLeft_67 ?_
            obtain ⟨g11, ht⟩ := it_g ht
            refine va_iast hx hb hE.1 hP (hD _) hS 19 0 rfl rfl (q_in g11) dX9_mostLeft_68 (fun H locs hP _ hS => ?_)
            have hP : va_P D vwCl (wg9 cI cZ d0 (q_su S0 31 z1.toNatClampNeg (z2 + z3))) H := hP
            obtain ⟨T12, eT12⟩ : ∃ z : St, z = q_su S0 31 z1.toNatClampNeg (z2 + z3) := ⟨_, rfl⟩
            rw [← eT12] at hP
            have ht := it_l ht eT12
            refine lv_aload_n hx hb dX9_mostLeft_69 rfl (lv_at hl 0 rfl) ?_
            refine va_get (D := D) (ci := 9) (v := .ref (d0 32)) (C := RX9) (T := TX9) (N := 37) hx hb hts hi9 hown hE.1 hP 0 rfl rfl 31 (by decide) hw0 (fun _ h9 => h9) rfl dX9_mostLeft_70 ?_
            refine lv_iload hx hb dX9_mostLeft_73 (lv_at hl 5 rfl) ?_
            obtain ⟨g13, ht⟩ := it_g ht
            refine va_iald hx hb hE.1 hP 19 0 rfl rfl (q_in g13) dX9_mostLeft_75 ?_
            refine lv_iload_n hx hb dX9_mostLeft_76 rfl (lv_at hl 3 rfl) ?_
            refine lv_icmp_le (tgt := 90) hx hb dX9_mostLeft_77 (by decide) (fun c14 => ?_) (fun c14 => ?_)
            · have ht := it_p c14 ht
              refine lv_iload_n hx hb dX9_mostLeft_90 rfl (lv_at hl 3 rfl) ?_
              refine lv_istore_n (lv' := [(3, .int x3), (0, .ref (d0 0)), (1, .int p0), (2, .int p1), (4, .int x4), (5, .int x5)]) hx hb dX9_mostLeft_91 rfl hl (by decide) rfl (fun ls hl => ?_)
              refine lv_iinc (v := x4 + 1) (lv' := [(4, .int (x4 + 1)), (3, .int x3), (0, .ref (d0 0)), (1, .int p0), (2, .int p1), (5, .int x5)]) hx hb dX9_mostLeft_92 hl (k := 4) rfl rfl (by decide) rfl (fun ls hl => ?_)
              refine lv_goto (tgt := 28) hx hb dX9_mostLeft_95 (by decide) ?_
              exact ih28 x3 (x4 + 1) T12 _ _ hP hS ls (lv_sub hl [2, 3, 4, 1, 0] rfl) ht
            · have ht := it_n c14 ht
              refine lv_aload_n hx hb dX9_mostLeft_80 rfl (lv_at hl 0 rfl) ?_
              refine va_get (D := D) (ci := 9) (v := .ref (d0 32)) (C := RX9) (T := TX9) (N := 37) hx hb hts hi9 hown hE.1 hP 0 rfl rfl 31 (by decide) hw0 (fun _ h9 => h9) rfl dX9_mostLeft_81 ?_
              refine lv_iload hx hb dX9_mostLeft_84 (lv_at hl 5 rfl) ?_
              refine va_iald hx hb hE.1 hP 19 0 rfl rfl (q_in g13) dX9_mostLeft_86 ?_
              refine lv_goto (tgt := 91) hx hb dX9_mostLeft_87 (by decide) ?_
              refine lv_istore_n (lv' := [(3, .int (T12 31 x5.toNatClampNeg)), (0, .ref (d0 0)), (1, .int p0), (2, .int p1), (4, .int x4), (5, .int x5)]) hx hb dX9_mostLeft_91 rfl hl (by decide) rfl (fun ls hl => ?_)
              refine lv_iinc (v := x4 + 1) (lv' := [(4, .int (x4 + 1)), (3, .int (T12 31 x5.toNatClampNeg)), (0, .ref (d0 0)), (1, .int p0), (2, .int p1), (5, .int x5)]) hx hb dX9_mostLeft_92 hl (k := 4) rfl rfl (by decide) rfl (fun ls hl => ?_)
              refine lv_goto (tgt := 28) hx hb dX9_mostLeft_95 (by decide) ?_
              exact ih28 (T12 31 x5.toNatClampNeg) (x4 + 1) T12 _ _ hP hS ls (lv_sub hl [2, 3, 4, 1, 0] rfl) ht
          refine lv_iload hx hb dX9_mostLeft_28 (lv_at hl 4 rfl) ?_
          refine lv_sipush (v := 256) hx hb dX9_mostLeft_30 (by decide +kernel) ?_
          refine lv_icmp_ge (tgt := 98) hx hb dX9_mostLeft_33 (by decide) (fun c4 => ?_) (fun c4 => ?_)
          · have ht := it_p c4 ht
            refine lv_iload_n hx hb dX9_mostLeft_98 rfl (lv_at hl 3 rfl) ?_
            subst hQ
            obtain rfl := Option.some.inj ht
            exact W.iret (v := x3) hx hb hr (fun t e1 hW => ⟨⟨_, (), rfl, ⟨rfl, trivial⟩, q_at e1 hP⟩, hS.F e1⟩) hS.2.2 dX9_mostLeft_99
          · have ht := it_n c4 ht
            refine lv_iload hx hb dX9_mostLeft_36 (lv_at hl 4 rfl) ?_
            refine lv_iload_n hx hb dX9_mostLeft_38 rfl (lv_at hl 1 rfl) ?_
            refine lv_iload_n hx hb dX9_mostLeft_39 rfl (lv_at hl 2 rfl) ?_
            obtain ⟨q5, hq5, ht⟩ := it_b ht
            refine q_ri (va_runS (As := [.int x4, .int p0, .int p1]) (rest := []) ⟨hx, hb, hml, hown, hts⟩ (kX9_thinkOf l D cI cZ cO x4 p0 p1 q5 hq5) (va_cwS 3 hts gX9_mostLeft_X9_thinkOf rfl rfl rfl (by decide +kernel) ⟨Nat.le_of_ble_eq_true rfl, Nat.le_of_ble_eq_true rfl⟩) (q_rS hE q_nil) rfl rfl hl.1 rfl (lv_room (Nat.le_of_ble_eq_true rfl)) dX9_mostLeft_40 ⟨Nat.le_of_ble_eq_true rfl, Nat.le_of_ble_eq_true rfl⟩) (fun b6 => ?_)
            refine lv_istore (lv' := [(5, .int q5), (0, .ref (d0 0)), (1, .int p0), (2, .int p1), (3, .int x3), (4, .int x4)]) hx hb dX9_mostLeft_43 hl (by decide) rfl (fun ls hl => ?_)
            refine lv_aload_n hx hb dX9_mostLeft_45 rfl (lv_at hl 1 rfl) ?_
            refine va_get (D := D) (ci := 9) (v := .ref (d0 32)) (C := RX9) (T := TX9) (N := 37) hx hb hts hi9 hown hE.1 hP 0 rfl rfl 31 (by decide) hw0 (fun _ h9 => h9) rfl dX9_mostLeft_46 ?_
            refine lv_iload hx hb dX9_mostLeft_49 (lv_at hl 0 rfl) ?_
            refine lv_dup2_11 hx hb dX9_mostLeft_51 rfl rfl ?_
            obtain ⟨g7, ht⟩ := it_g ht
            refine va_iald hx hb hE.1 hP 19 0 rfl rfl (q_in g7) dX9_mostLeft_52 ?_
            refine lv_aload_n hx hb dX9_mostLeft_53 rfl (lv_at hl 1 rfl) ?_
            refine lv_iload hx hb dX9_mostLeft_54 (lv_at hl 5 rfl) ?_
            obtain ⟨q8, hq8, ht⟩ := it_b ht
            refine q_ri (va_runV (As := [.int x4]) (rest := [.int (S0 31 q5.toNatClampNeg), .int q5, .ref (d0 32)]) ⟨hx, hb, hml, hown, hts⟩ (kX9_isFit l D cI cZ cO d0 S0 x4 q8 hq8) (cwV 1 hts gX9_mostLeft_X9_isFit rfl rfl rfl (by decide +kernel) ⟨Nat.le_of_ble_eq_true rfl, Nat.le_of_ble_eq_true rfl⟩) (q_rV (As := [.int x4]) hE hP (q0 := 0) (ci := 9) rfl rfl) rfl rfl hl.1 rfl (lv_room (Nat.le_of_ble_eq_true rfl)) dX9_mostLeft_56 ⟨Nat.le_of_ble_eq_true rfl, Nat.le_of_ble_eq_true rfl⟩) (fun b9 => ?_)
            refine lv_if_eq (tgt := 66) hx hb dX9_mostLeft_59 (by decide) (fun c10 => ?_) (fun c10 => ?_)
            · have ht := it_p c10 ht
              refine lv_iconst (v := 0) hx hb dX9_mostLeft_66 (by decide) ?_
              exact J67 x3 x4 q5 q5 (S0 31 q5.toNatClampNeg) 0 S0 _ _ hP hS ls (lv_sub hl [1, 2, 3, 4, 5, 0] rfl) ht
            · have ht := it_n c10 ht
              refine lv_iconst (v := 1) hx hb dX9_mostLeft_62 (by decide) ?_
              refine lv_goto (tgt := 67) hx hb dX9_mostLeft_63 (by decide) ?_
              exact J67 x3 x4 q5 q5 (S0 31 q5.toNatClampNeg) 1 S0 _ _ hP hS ls (lv_sub hl [1, 2, 3, 4, 5, 0] rfl) ht
      refine lv_iload hx hb dX9_mostLeft_5 (lv_at hl 4 rfl) ?_
      refine lv_iconst (v := 5) hx hb dX9_mostLeft_7 (by decide) ?_
      refine lv_icmp_ge (tgt := 25) hx hb dX9_mostLeft_8 (by decide) (fun c1 => ?_) (fun c1 => ?_)
      · have ht := it_p c1 ht
        refine lv_iconst (v := 0) hx hb dX9_mostLeft_25 (by decide) ?_
        refine lv_istore (lv' := [(4, .int 0), (0, .ref (d0 0)), (1, .int p0), (2, .int p1), (3, .int x3)]) hx hb dX9_mostLeft_26 hl (by decide) rfl (fun ls hl => ?_)
        exact L28 5000 x3 0 S0 _ _ hP hS ls (lv_sub hl [1, 2, 3, 4, 0] rfl) ht
      · have ht := it_n c1 ht
        refine lv_aload_n hx hb dX9_mostLeft_11 rfl (lv_at hl 0 rfl) ?_
        refine va_get (D := D) (ci := 9) (v := .ref (d0 32)) (C := RX9) (T := TX9) (N := 37) hx hb hts hi9 hown hE.1 hP 0 rfl rfl 31 (by decide) hw0 (fun _ h9 => h9) rfl dX9_mostLeft_12 ?_
        refine lv_iload hx hb dX9_mostLeft_15 (lv_at hl 4 rfl) ?_
        refine lv_iconst (v := 0) hx hb dX9_mostLeft_17 (by decide) ?_
        obtain ⟨g2, ht⟩ := it_g ht
        refine va_iast hx hb hE.1 hP (hD _) hS 19 0 rfl rfl (q_in g2) dX9_mostLeft_18 (fun H locs hP _ hS => ?_)
        have hP : va_P D vwCl (wg9 cI cZ d0 (q_su S0 31 x4.toNatClampNeg 0)) H := hP
        obtain ⟨T3, eT3⟩ : ∃ z : St, z = q_su S0 31 x4.toNatClampNeg 0 := ⟨_, rfl⟩
        rw [← eT3] at hP
        have ht := it_l ht eT3
        refine lv_iinc (v := x4 + 1) (lv' := [(4, .int (x4 + 1)), (0, .ref (d0 0)), (1, .int p0), (2, .int p1), (3, .int x3)]) hx hb dX9_mostLeft_19 hl (k := 4) rfl rfl (by decide) rfl (fun ls hl => ?_)
        refine lv_goto (tgt := 5) hx hb dX9_mostLeft_22 (by decide) ?_
        exact ih5 x3 (x4 + 1) T3 _ _ hP hS ls (lv_sub hl [1, 2, 3, 4, 0] rfl) ht
  refine lv_iconst (v := 0) hx hb dX9_mostLeft_0 (by decide) ?_
  refine lv_istore_n (lv' := [(3, .int 0), (0, .ref (d0 0)), (1, .int p0), (2, .int p1)]) hx hb dX9_mostLeft_1 rfl hl (by decide) rfl (fun ls hl => ?_)
  refine lv_iconst (v := 0) hx hb dX9_mostLeft_2 (by decide) ?_
  refine lv_istore (lv' := [(4, .int 0), (3, .int 0), (0, .ref (d0 0)), (1, .int p0), (2, .int p1)]) hx hb dX9_mostLeft_3 hl (by decide) rfl (fun ls hl => ?_)
  exact L5 5000 0 0 S0 _ _ hP hS ls (lv_sub hl [2, 3, 4, 1, 0] rfl) ht
abbrev rmX9_ask : Room := { frames := 4, cells := 0, slots := 0, locals := 93 }
set_option maxHeartbeats 4000000 in
set_option maxRecDepth 100000 in
theorem kX9_ask (l : Launch) (D : va_G) (cI cZ cO : ClassId) (d0 : Nat → Nat) (sz : Nat) (S0 : St) (p0 : Int32) (tg : Int32 × St) (ht : xX9_ask p0 S0 = some tg) : Met l yX9_ask wsX9_ask rmX9_ask (q_PM D cI cZ cO [.ref (d0 0), .int p0] sz (wg9 cI cZ d0 S0)) (va_Qi (fun x (_ : Unit) => x = tg.1 ∧ True) (fun _ t => va_P D vwCl (wg9 cI cZ d0 tg.2) t.heap) (va_A (wg9 cI cZ d0 S0) sz)) 0 0 (va_A (wg9 cI cZ d0 S0) sz) := by
  refine Met.ofW (cc := cX9_ask) (maxL := 6) (ret := (some .int)) (by decide) rfl ?_
  intro p e s m args below meth c s₁ B hml hv
  obtain ⟨rfl, hsz, hE, hP, hD0⟩ := hv
  have hx := B.exec
  have hb := B.bytes
  have hr := B.returns
  have hts := atoms_spec (ws := wsX9_ask) B.pre
  have hown : s.vm.findClass RX9 = some m.cls := findClass_of_methodNamed B.named
  have hlocks := B.notSynchronized
  subst hsz
  have hD1 := hD0.self (sz := s.heap.size)
  generalize hAe : va_A (wg9 cI cZ d0 S0) s.heap.size = A at hD1 ⊢
  have hA : ∀ q : Nat, s.heap.size ≤ q → A q := fun q h => by rw [← hAe]; exact Or.inr h
  have hS : va_S A s.heap s.heap [] := va_S.rf
  have hD : ∀ (S0 : St), va_D A (wg9 cI cZ d0 S0) := fun S0 => q_D hD1 rfl
  have hl := lv_entry ([.ref (d0 0), .int p0]) (n := 6) (Nat.le_of_ble_eq_true rfl)
  rw [lg_entry_eq]
  generalize (lg_sl ([.ref (d0 0), .int p0]) ++ List.replicate (6 - (lg_sl ([.ref (d0 0), .int p0])).length) Slot.unset).toArray = ls at hl ⊢
  have hl : lv_has ls 6 [(0, .ref (d0 0)), (1, .int p0)] := hl
  have ht := (xX9_ask_s p0 S0).symm.trans ht
  obtain ⟨Q, hQ⟩ : ∃ Q, Q = MQ below (va_Qi (fun x (_ : Unit) => x = tg.1 ∧ True) (fun _ t => va_P D vwCl (wg9 cI cZ d0 tg.2) t.heap) A) ([.ref (d0 0), .int p0] : List Value).toArray s 0 0 A := ⟨_, rfl⟩
  rw [← hQ]
  have L27 : ∀ (n : Nat) (x2 : Int32) (x3 : Int32) (x4 : Int32) (S0 : St) (H : Heap) (locs : List Loc) (_ : va_P D vwCl (wg9 cI cZ d0 S0) H) (_ : va_S A s.heap H locs) (ls : Array Slot) (_ : lv_has ls 6 [(0, .ref (d0 0)), (1, .int p0), (2, .int x2), (3, .int x3), (4, .int x4)]) (_ : xX9_ask_h27 p0 n x2 x3 x4 S0 = some tg), W p l e (headSpec wsX9_ask rmX9_ask).room s m ([.ref (d0 0), .int p0] : List Value).toArray below meth c H locs 0 0 Q (F0 m 27 ls []) := by
    intro n
    induction n with
    | zero =>
      intro x2 x3 x4 S0 H locs hP hS ls hl ht
      exact it_z ht
    | succ n27 ih27 =>
      intro x2 x3 x4 S0 H locs hP hS ls hl ht
      have ht := (xX9_ask_h27_s p0 n27 x2 x3 x4 S0).symm.trans ht
      have J62 : ∀ (x2 : Int32) (x3 : Int32) (x4 : Int32) (z0 : Int32) (S0 : St) (H : Heap) (locs : List Loc) (_ : va_P D vwCl (wg9 cI cZ d0 S0) H) (_ : va_S A s.heap H locs) (ls : Array Slot) (_ : lv_has ls 6 [(0, .ref (d0 0)), (1, .int p0), (2, .int x2), (3, .int x3), (4, .int x4)]) (_ : xX9_ask_h62 p0 (xX9_ask_h27 p0 n27) x2 x3 x4 z0 S0 = some tg), W p l e (headSpec wsX9_ask rmX9_ask).room s m ([.ref (d0 0), .int p0] : List Value).toArray below meth c H locs 0 0 Q (F0 m 62 ls [.int z0]) := by
        intro x2 x3 x4 z0 S0 H locs hP hS ls hl ht
        have ht := (xX9_ask_h62_s p0 (xX9_ask_h27 p0 n27) x2 x3 x4 z0 S0).symm.trans ht
        have J76 : ∀ (x3 : Int32) (x4 : Int32) (x5 : Int32) (z0 : Int32) (S0 : St) (H : Heap) (locs : List Loc) (_ : va_P D vwCl (wg9 cI cZ d0 S0) H) (_ : va_S A s.heap H locs) (ls : Array Slot) (_ : lv_has ls 6 [(0, .ref (d0 0)), (1, .int p0), (3, .int x3), (4, .int x4), (5, .int x5)]) (_ : xX9_ask_h76 p0 (xX9_ask_h27 p0 n27) x3 x4 x5 z0 S0 = some tg), W p l e (headSpec wsX9_ask rmX9_ask).room s m ([.ref (d0 0), .int p0] : List Value).toArray below meth c H locs 0 0 Q (F0 m 76 ls [.int z0]) := by
          intro x3 x4 x5 z0 S0 H locs hP hS ls hl ht
          have ht := (xX9_ask_h76_s p0 (xX9_ask_h27 p0 n27) x3 x4 x5 z0 S0).symm.trans ht
          refine lv_istore_n (lv' := [(2, .int z0), (0, .ref (d0 0)), (1, .int p0), (3, .int x3), (4, .int x4), (5, .int x5)]) hx hb dX9_ask_76 rfl hl (by decide) rfl (fun ls hl => ?_)
          refine lv_iload_n hx hb dX9_ask_77 rfl (lv_at hl 3 rfl) ?_
          refine lv_iload hx hb dX9_ask_78 (lv_at hl 5 rfl) ?_
          refine q_ri (va_runS (As := [.int x3, .int x5]) (rest := []) ⟨hx, hb, hml, hown, hts⟩ (kX9_less l D cI cZ cO x3 x5) (va_cwS 2 hts gX9_ask_X9_less rfl rfl rfl (by decide +kernel) ⟨Nat.le_of_ble_eq_true rfl, Nat.le_of_ble_eq_true rfl⟩) (q_rS hE q_nil) rfl rfl hl.1 rfl (lv_room (Nat.le_of_ble_eq_true rfl)) dX9_ask_80 ⟨Nat.le_of_ble_eq_true rfl, Nat.le_of_ble_eq_true rfl⟩) (fun b12 => ?_)
          refine lv_istore_n (lv' := [(3, .int (xX9_less x3 x5)), (2, .int z0), (0, .ref (d0 0)), (1, .int p0), (4, .int x4), (5, .int x5)]) hx hb dX9_ask_83 rfl hl (by decide) rfl (fun ls hl => ?_)
          refine lv_iinc (v := x4 + 1) (lv' := [(4, .int (x4 + 1)), (3, .int (xX9_less x3 x5)), (2, .int z0), (0, .ref (d0 0)), (1, .int p0), (5, .int x5)]) hx hb dX9_ask_84 hl (k := 4) rfl rfl (by decide) rfl (fun ls hl => ?_)
          refine lv_goto (tgt := 27) hx hb dX9_ask_87 (by decide) ?_
          exact ih27 z0 (xX9_less x3 x5) (x4 + 1) S0 _ _ hP hS ls (lv_sub hl [3, 4, 2, 1, 0] rfl) ht
        refine lv_istore (lv' := [(5, .int z0), (0, .ref (d0 0)), (1, .int p0), (2, .int x2), (3, .int x3), (4, .int x4)]) hx hb dX9_ask_62 hl (by decide) rfl (fun ls hl => ?_)
        refine lv_iload hx hb dX9_ask_64 (lv_at hl 0 rfl) ?_
        refine lv_iload_n hx hb dX9_ask_66 rfl (lv_at hl 4 rfl) ?_
        refine lv_icmp_ge (tgt := 75) hx hb dX9_ask_67 (by decide) (fun c11 => ?_) (fun c11 => ?_)
        · have ht := it_p c11 ht
          refine lv_iload_n hx hb dX9_ask_75 rfl (lv_at hl 3 rfl) ?_
          exact J76 x3 x4 z0 x2 S0 _ _ hP hS ls (lv_sub hl [1, 2, 4, 5, 0] rfl) ht
        · have ht := it_n c11 ht
          refine lv_iload hx hb dX9_ask_70 (lv_at hl 5 rfl) ?_
          refine lv_goto (tgt := 76) hx hb dX9_ask_72 (by decide) ?_
          exact J76 x3 x4 z0 x4 S0 _ _ hP hS ls (lv_sub hl [1, 2, 4, 5, 0] rfl) ht
      refine lv_iload hx hb dX9_ask_27 (lv_at hl 4 rfl) ?_
      refine lv_sipush (v := 154) hx hb dX9_ask_29 (by decide +kernel) ?_
      refine lv_icmp_ge (tgt := 90) hx hb dX9_ask_32 (by decide) (fun c5 => ?_) (fun c5 => ?_)
      · have ht := it_p c5 ht
        refine lv_iload_n hx hb dX9_ask_90 rfl (lv_at hl 3 rfl) ?_
        refine lv_if_ne (tgt := 99) hx hb dX9_ask_91 (by decide) (fun c6 => ?_) (fun c6 => ?_)
        · have ht := it_n c6 ht
          refine lv_iload_n hx hb dX9_ask_99 rfl (lv_at hl 1 rfl) ?_
          refine lv_if_ne (tgt := 107) hx hb dX9_ask_100 (by decide) (fun c7 => ?_) (fun c7 => ?_)
          · have ht := it_n c7 ht
            refine lv_iload_n hx hb dX9_ask_107 rfl (lv_at hl 3 rfl) ?_
            subst hQ
            obtain rfl := Option.some.inj ht
            exact W.iret (v := x3) hx hb hr (fun t e1 hW => ⟨⟨_, (), rfl, ⟨rfl, trivial⟩, q_at e1 hP⟩, hS.F e1⟩) hS.2.2 dX9_ask_108
          · have ht := it_p c7 ht
            refine lv_iload_n hx hb dX9_ask_103 rfl (lv_at hl 2 rfl) ?_
            refine lv_goto (tgt := 108) hx hb dX9_ask_104 (by decide) ?_
            subst hQ
            obtain rfl := Option.some.inj ht
            exact W.iret (v := x2) hx hb hr (fun t e1 hW => ⟨⟨_, (), rfl, ⟨rfl, trivial⟩, q_at e1 hP⟩, hS.F e1⟩) hS.2.2 dX9_ask_108
        · have ht := it_p c6 ht
          refine lv_bipush (v := (-6)) hx hb dX9_ask_94 (by decide) ?_
          refine lv_goto (tgt := 108) hx hb dX9_ask_96 (by decide) ?_
          subst hQ
          obtain rfl := Option.some.inj ht
          exact W.iret (v := (-6)) hx hb hr (fun t e1 hW => ⟨⟨_, (), rfl, ⟨rfl, trivial⟩, q_at e1 hP⟩, hS.F e1⟩) hS.2.2 dX9_ask_108
      · have ht := it_n c5 ht
        refine lv_iload hx hb dX9_ask_35 (lv_at hl 4 rfl) ?_
        refine lv_bipush (v := 10) hx hb dX9_ask_37 (by decide) ?_
        refine q_irem hx hb dX9_ask_39 (by decide +kernel) ?_
        refine lv_iconst (v := 4) hx hb dX9_ask_40 (by decide) ?_
        refine lv_icmp_ge (tgt := 61) hx hb dX9_ask_41 (by decide) (fun c8 => ?_) (fun c8 => ?_)
        · have ht := it_p c8 ht
          refine lv_iload_n hx hb dX9_ask_61 rfl (lv_at hl 3 rfl) ?_
          exact J62 x2 x3 x4 x3 S0 _ _ hP hS ls (lv_sub hl [0, 1, 2, 3, 4] rfl) ht
        · have ht := it_n c8 ht
          refine lv_aload_n hx hb dX9_ask_44 rfl (lv_at hl 0 rfl) ?_
          refine lv_iload hx hb dX9_ask_45 (lv_at hl 4 rfl) ?_
          refine lv_bipush (v := 10) hx hb dX9_ask_47 (by decide) ?_
          refine lv_idiv hx hb dX9_ask_49 (by decide +kernel) ?_
          refine lv_iload hx hb dX9_ask_50 (lv_at hl 4 rfl) ?_
          refine lv_bipush (v := 10) hx hb dX9_ask_52 (by decide) ?_
          refine q_irem hx hb dX9_ask_54 (by decide +kernel) ?_
          obtain ⟨q9, hq9, ht⟩ := it_b ht
          have hFc := q_freeW (hD S0) hS hA
          refine q_mi (va_runV (As := [.int (x4 / 10), .int (q_rem x4 10)]) (rest := []) ⟨hx, hb, hml, hown, hts⟩ (kX9_mostLeft l D cI cZ cO d0 H.size S0 (x4 / 10) (q_rem x4 10) q9 hq9) (cwV 2 hts gX9_ask_X9_mostLeft rfl rfl rfl (by decide +kernel) ⟨Nat.le_of_ble_eq_true rfl, Nat.le_of_ble_eq_true rfl⟩) (q_mV (As := [.int (x4 / 10), .int (q_rem x4 10)]) hE hP (hD S0) (q0 := 0) (ci := 9) rfl rfl) rfl rfl hl.1 rfl (lv_room (Nat.le_of_ble_eq_true rfl)) dX9_ask_55 ⟨Nat.le_of_ble_eq_true rfl, Nat.le_of_ble_eq_true rfl⟩) hS hFc (fun H locs b10 hP1 hk hS => ?_)
          have hP : va_P D vwCl (wg9 cI cZ d0 q9.2) H := hP1
          refine lv_goto (tgt := 62) hx hb dX9_ask_58 (by decide) ?_
          exact J62 x2 x3 x4 q9.1 q9.2 _ _ hP hS ls (lv_sub hl [0, 1, 2, 3, 4] rfl) ht
  refine lv_iload_n hx hb dX9_ask_0 rfl (lv_at hl 1 rfl) ?_
  refine lv_i2l (v := p0.toInt64) hx hb dX9_ask_1 rfl ?_
  refine lv_lconst (v := 0) hx hb dX9_ask_2 (by decide) ?_
  refine lv_lconst (v := 1) hx hb dX9_ask_3 (by decide) ?_
  refine q_ri (va_runS (As := [.long p0.toInt64, .long 0, .long 1]) (rest := []) ⟨hx, hb, hml, hown, hts⟩ (kX9_in l D cI cZ cO p0.toInt64 0 1) (va_cwS 3 hts gX9_ask_X9_in rfl rfl rfl (by decide +kernel) ⟨Nat.le_of_ble_eq_true rfl, Nat.le_of_ble_eq_true rfl⟩) (q_rS hE q_nil) rfl rfl hl.1 rfl (lv_room (Nat.le_of_ble_eq_true rfl)) dX9_ask_4 ⟨Nat.le_of_ble_eq_true rfl, Nat.le_of_ble_eq_true rfl⟩) (fun b1 => ?_)
  refine lv_if_ne (tgt := 13) hx hb dX9_ask_7 (by decide) (fun c2 => ?_) (fun c2 => ?_)
  · have ht := it_n c2 ht
    refine lv_bipush (v := 10) hx hb dX9_ask_13 (by decide) ?_
    refine lv_istore_n (lv' := [(2, .int 10), (0, .ref (d0 0)), (1, .int p0)]) hx hb dX9_ask_15 rfl hl (by decide) rfl (fun ls hl => ?_)
    refine lv_aload_n hx hb dX9_ask_16 rfl (lv_at hl 1 rfl) ?_
    refine lv_iconst (v := 1) hx hb dX9_ask_17 (by decide) ?_
    refine lv_iconst (v := 0) hx hb dX9_ask_18 (by decide) ?_
    obtain ⟨q3, hq3, ht⟩ := it_b ht
    have hFc := q_freeW (hD S0) hS hA
    refine q_mi (va_runV (As := [.int 1, .int 0]) (rest := []) ⟨hx, hb, hml, hown, hts⟩ (kX9_mostLeft l D cI cZ cO d0 s.heap.size S0 1 0 q3 hq3) (cwV 2 hts gX9_ask_X9_mostLeft rfl rfl rfl (by decide +kernel) ⟨Nat.le_of_ble_eq_true rfl, Nat.le_of_ble_eq_true rfl⟩) (q_mV (As := [.int 1, .int 0]) hE hP (hD S0) (q0 := 0) (ci := 9) rfl rfl) rfl rfl hl.1 rfl (lv_room (Nat.le_of_ble_eq_true rfl)) dX9_ask_19 ⟨Nat.le_of_ble_eq_true rfl, Nat.le_of_ble_eq_true rfl⟩) hS hFc (fun H locs b4 hP1 hk hS => ?_)
    have hP : va_P D vwCl (wg9 cI cZ d0 q3.2) H := hP1
    refine lv_istore_n (lv' := [(3, .int q3.1), (2, .int 10), (0, .ref (d0 0)), (1, .int p0)]) hx hb dX9_ask_22 rfl hl (by decide) rfl (fun ls hl => ?_)
    refine lv_bipush (v := 11) hx hb dX9_ask_23 (by decide) ?_
    refine lv_istore (lv' := [(4, .int 11), (3, .int q3.1), (2, .int 10), (0, .ref (d0 0)), (1, .int p0)]) hx hb dX9_ask_25 hl (by decide) rfl (fun ls hl => ?_)
    exact L27 5000 10 q3.1 11 q3.2 _ _ hP hS ls (lv_sub hl [3, 4, 2, 1, 0] rfl) ht
  · have ht := it_p c2 ht
    refine lv_bipush (v := (-2)) hx hb dX9_ask_10 (by decide) ?_
    subst hQ
    obtain rfl := Option.some.inj ht
    exact W.iret (v := (-2)) hx hb hr (fun t e1 hW => ⟨⟨_, (), rfl, ⟨rfl, trivial⟩, q_at e1 hP⟩, hS.F e1⟩) hS.2.2 dX9_ask_12
abbrev rmX9_leastTake : Room := { frames := 0, cells := 0, slots := 0, locals := 0 }
set_option maxHeartbeats 4000000 in
set_option maxRecDepth 100000 in
theorem kX9_leastTake (l : Launch) (D : va_G) (cI cZ cO : ClassId) (d0 : Nat → Nat) (S0 : St) (p0 : Int32) (tg : Int32) (ht : xX9_leastTake S0 p0 = some tg) : Met l yX9_leastTake wsX9_leastTake rmX9_leastTake (q_PR D cI cZ cO [.ref (d0 0), .int p0] (wg9 cI cZ d0 S0)) (vp_Si (fun x => x = tg ∧ True)) 0 0 (fun _ => False) := by
  refine Met.ofW (cc := cX9_leastTake) (maxL := 4) (ret := (some .int)) (by decide) rfl ?_
  intro p e s m args below meth c s₁ B hml hv
  obtain ⟨rfl, hE, hP⟩ := hv
  have hx := B.exec
  have hb := B.bytes
  have hr := B.returns
  have hts := atoms_spec (ws := wsX9_leastTake) B.pre
  have hown : s.vm.findClass RX9 = some m.cls := findClass_of_methodNamed B.named
  have hlocks := B.notSynchronized
  have hi9 : ∀ w ∈ u_ws RX9 TX9 37, w ∈ wsX9_leastTake := by decide +kernel
  have hw0 := hts (.fieldLink RX9 67 "HailNamesModel" "wins" "[Z") (by decide +kernel)
  have hl := lv_entry ([.ref (d0 0), .int p0]) (n := 4) (Nat.le_of_ble_eq_true rfl)
  rw [lg_entry_eq]
  generalize (lg_sl ([.ref (d0 0), .int p0]) ++ List.replicate (4 - (lg_sl ([.ref (d0 0), .int p0])).length) Slot.unset).toArray = ls at hl ⊢
  have hl : lv_has ls 4 [(0, .ref (d0 0)), (1, .int p0)] := hl
  have ht := (xX9_leastTake_s S0 p0).symm.trans ht
  obtain ⟨Q, hQ⟩ : ∃ Q, Q = MQ below (vp_Si (fun x => x = tg ∧ True)) ([.ref (d0 0), .int p0] : List Value).toArray s 0 0 (fun _ => False) := ⟨_, rfl⟩
  rw [← hQ]
  have L6 : ∀ (n : Nat) (x2 : Int32) (x3 : Int32) (ls : Array Slot) (_ : lv_has ls 4 [(0, .ref (d0 0)), (1, .int p0), (2, .int x2), (3, .int x3)]) (_ : xX9_leastTake_h6 S0 p0 n x2 x3 = some tg), W p l e (headSpec wsX9_leastTake rmX9_leastTake).room s m ([.ref (d0 0), .int p0] : List Value).toArray below meth c s.heap [] 0 0 Q (F0 m 6 ls []) := by
    intro n
    induction n with
    | zero =>
      intro x2 x3 ls hl ht
      exact it_z ht
    | succ n6 ih6 =>
      intro x2 x3 ls hl ht
      have ht := (xX9_leastTake_h6_s S0 p0 n6 x2 x3).symm.trans ht
      refine lv_iload_n hx hb dX9_leastTake_6 rfl (lv_at hl 3 rfl) ?_
      refine lv_if_le (tgt := 40) hx hb dX9_leastTake_7 (by decide) (fun c1 => ?_) (fun c1 => ?_)
      · have ht := it_p c1 ht
        refine lv_iload_n hx hb dX9_leastTake_40 rfl (lv_at hl 2 rfl) ?_
        subst hQ
        have ht := Option.some.inj ht
        exact W.iret (v := x2) hx hb hr (fun t e1 hW => ⟨_, rfl, ⟨ht, trivial⟩, e1⟩) (fun q h => absurd h List.not_mem_nil) dX9_leastTake_41
      · have ht := it_n c1 ht
        refine lv_iload_n hx hb dX9_leastTake_10 rfl (lv_at hl 3 rfl) ?_
        refine lv_iload_n hx hb dX9_leastTake_11 rfl (lv_at hl 3 rfl) ?_
        refine lv_imul hx hb dX9_leastTake_12 ?_
        refine lv_iload_n hx hb dX9_leastTake_13 rfl (lv_at hl 1 rfl) ?_
        refine lv_icmp_gt (tgt := 32) hx hb dX9_leastTake_14 (by decide) (fun c2 => ?_) (fun c2 => ?_)
        · have ht := it_p c2 ht
          refine lv_iload_n hx hb dX9_leastTake_32 rfl (lv_at hl 2 rfl) ?_
          refine lv_istore_n (lv' := [(2, .int x2), (0, .ref (d0 0)), (1, .int p0), (3, .int x3)]) hx hb dX9_leastTake_33 rfl hl (by decide) rfl (fun ls hl => ?_)
          refine lv_iinc (v := x3 + (-1)) (lv' := [(3, .int (x3 + (-1))), (2, .int x2), (0, .ref (d0 0)), (1, .int p0)]) hx hb dX9_leastTake_34 hl (k := 3) rfl rfl (by decide) rfl (fun ls hl => ?_)
          refine lv_goto (tgt := 6) hx hb dX9_leastTake_37 (by decide) ?_
          exact ih6 x2 (x3 + (-1)) ls (lv_sub hl [2, 3, 1, 0] rfl) ht
        · have ht := it_n c2 ht
          refine lv_aload_n hx hb dX9_leastTake_17 rfl (lv_at hl 0 rfl) ?_
          refine va_get (D := D) (ci := 9) (v := .ref (d0 33)) (C := RX9) (T := TX9) (N := 37) hx hb hts hi9 hown hE.1 hP 0 rfl rfl 32 (by decide) hw0 (fun _ h9 => h9) rfl dX9_leastTake_18 ?_
          refine lv_iload_n hx hb dX9_leastTake_21 rfl (lv_at hl 1 rfl) ?_
          refine lv_iload_n hx hb dX9_leastTake_22 rfl (lv_at hl 3 rfl) ?_
          refine lv_isub hx hb dX9_leastTake_23 ?_
          obtain ⟨g3, ht⟩ := it_g ht
          refine va_zald hx hb hE.1 hP 20 1 rfl rfl (q_in g3) dX9_leastTake_24 ?_
          refine lv_if_ne (tgt := 32) hx hb dX9_leastTake_25 (by decide) (fun c4 => ?_) (fun c4 => ?_)
          · have ht := it_n c4 ht
            refine lv_iload_n hx hb dX9_leastTake_32 rfl (lv_at hl 2 rfl) ?_
            refine lv_istore_n (lv' := [(2, .int x2), (0, .ref (d0 0)), (1, .int p0), (3, .int x3)]) hx hb dX9_leastTake_33 rfl hl (by decide) rfl (fun ls hl => ?_)
            refine lv_iinc (v := x3 + (-1)) (lv' := [(3, .int (x3 + (-1))), (2, .int x2), (0, .ref (d0 0)), (1, .int p0)]) hx hb dX9_leastTake_34 hl (k := 3) rfl rfl (by decide) rfl (fun ls hl => ?_)
            refine lv_goto (tgt := 6) hx hb dX9_leastTake_37 (by decide) ?_
            exact ih6 x2 (x3 + (-1)) ls (lv_sub hl [2, 3, 1, 0] rfl) ht
          · have ht := it_p c4 ht
            refine lv_iload_n hx hb dX9_leastTake_28 rfl (lv_at hl 3 rfl) ?_
            refine lv_goto (tgt := 33) hx hb dX9_leastTake_29 (by decide) ?_
            refine lv_istore_n (lv' := [(2, .int x3), (0, .ref (d0 0)), (1, .int p0), (3, .int x3)]) hx hb dX9_leastTake_33 rfl hl (by decide) rfl (fun ls hl => ?_)
            refine lv_iinc (v := x3 + (-1)) (lv' := [(3, .int (x3 + (-1))), (2, .int x3), (0, .ref (d0 0)), (1, .int p0)]) hx hb dX9_leastTake_34 hl (k := 3) rfl rfl (by decide) rfl (fun ls hl => ?_)
            refine lv_goto (tgt := 6) hx hb dX9_leastTake_37 (by decide) ?_
            exact ih6 x3 (x3 + (-1)) ls (lv_sub hl [2, 3, 1, 0] rfl) ht
  refine lv_bipush (v := (-6)) hx hb dX9_leastTake_0 (by decide) ?_
  refine lv_istore_n (lv' := [(2, .int (-6)), (0, .ref (d0 0)), (1, .int p0)]) hx hb dX9_leastTake_2 rfl hl (by decide) rfl (fun ls hl => ?_)
  refine lv_bipush (v := 31) hx hb dX9_leastTake_3 (by decide) ?_
  refine lv_istore_n (lv' := [(3, .int 31), (2, .int (-6)), (0, .ref (d0 0)), (1, .int p0)]) hx hb dX9_leastTake_5 rfl hl (by decide) rfl (fun ls hl => ?_)
  exact L6 5000 (-6) 31 ls (lv_sub hl [2, 3, 1, 0] rfl) ht
abbrev rmX9_roots : Room := { frames := 1, cells := 0, slots := 0, locals := 25 }
set_option maxHeartbeats 4000000 in
set_option maxRecDepth 100000 in
theorem kX9_roots (l : Launch) (D : va_G) (cI cZ cO : ClassId) (d0 : Nat → Nat) (sz : Nat) (S0 : St) (p0 : Int32) (p1 : Int32) (tg : Int32 × St) (ht : xX9_roots p0 p1 S0 = some tg) : Met l yX9_roots wsX9_roots rmX9_roots (q_PM D cI cZ cO [.ref (d0 0), .int p0, .int p1] sz (wg9 cI cZ d0 S0)) (va_Qi (fun x (_ : Unit) => x = tg.1 ∧ True) (fun _ t => va_P D vwCl (wg9 cI cZ d0 tg.2) t.heap) (va_A (wg9 cI cZ d0 S0) sz)) 0 0 (va_A (wg9 cI cZ d0 S0) sz) := by
  refine Met.ofW (cc := cX9_roots) (maxL := 4) (ret := (some .int)) (by decide) rfl ?_
  intro p e s m args below meth c s₁ B hml hv
  obtain ⟨rfl, hsz, hE, hP, hD0⟩ := hv
  have hx := B.exec
  have hb := B.bytes
  have hr := B.returns
  have hts := atoms_spec (ws := wsX9_roots) B.pre
  have hown : s.vm.findClass RX9 = some m.cls := findClass_of_methodNamed B.named
  have hlocks := B.notSynchronized
  have hi9 : ∀ w ∈ u_ws RX9 TX9 37, w ∈ wsX9_roots := by decide +kernel
  have hw0 := hts (.constantLong RX9 303 (999)) (by decide +kernel)
  have hw1 := hts (.fieldLink RX9 67 "HailNamesModel" "wins" "[Z") (by decide +kernel)
  subst hsz
  have hD1 := hD0.self (sz := s.heap.size)
  generalize hAe : va_A (wg9 cI cZ d0 S0) s.heap.size = A at hD1 ⊢
  have hA : ∀ q : Nat, s.heap.size ≤ q → A q := fun q h => by rw [← hAe]; exact Or.inr h
  have hS : va_S A s.heap s.heap [] := va_S.rf
  have hD : ∀ (S0 : St), va_D A (wg9 cI cZ d0 S0) := fun S0 => q_D hD1 rfl
  have hl := lv_entry ([.ref (d0 0), .int p0, .int p1]) (n := 4) (Nat.le_of_ble_eq_true rfl)
  rw [lg_entry_eq]
  generalize (lg_sl ([.ref (d0 0), .int p0, .int p1]) ++ List.replicate (4 - (lg_sl ([.ref (d0 0), .int p0, .int p1])).length) Slot.unset).toArray = ls at hl ⊢
  have hl : lv_has ls 4 [(0, .ref (d0 0)), (1, .int p0), (2, .int p1)] := hl
  have ht := (xX9_roots_s p0 p1 S0).symm.trans ht
  obtain ⟨Q, hQ⟩ : ∃ Q, Q = MQ below (va_Qi (fun x (_ : Unit) => x = tg.1 ∧ True) (fun _ t => va_P D vwCl (wg9 cI cZ d0 tg.2) t.heap) A) ([.ref (d0 0), .int p0, .int p1] : List Value).toArray s 0 0 A := ⟨_, rfl⟩
  rw [← hQ]
  have L27 : ∀ (n : Nat) (x3 : Int32) (S0 : St) (H : Heap) (locs : List Loc) (_ : va_P D vwCl (wg9 cI cZ d0 S0) H) (_ : va_S A s.heap H locs) (ls : Array Slot) (_ : lv_has ls 4 [(0, .ref (d0 0)), (1, .int p0), (2, .int p1), (3, .int x3)]) (_ : xX9_roots_h27 p0 p1 n x3 S0 = some tg), W p l e (headSpec wsX9_roots rmX9_roots).room s m ([.ref (d0 0), .int p0, .int p1] : List Value).toArray below meth c H locs 0 0 Q (F0 m 27 ls []) := by
    intro n
    induction n with
    | zero =>
      intro x3 S0 H locs hP hS ls hl ht
      exact it_z ht
    | succ n27 ih27 =>
      intro x3 S0 H locs hP hS ls hl ht
      have ht := (xX9_roots_h27_s p0 p1 n27 x3 S0).symm.trans ht
      refine lv_iload_n hx hb dX9_roots_27 rfl (lv_at hl 3 rfl) ?_
      refine lv_iload_n hx hb dX9_roots_28 rfl (lv_at hl 1 rfl) ?_
      refine lv_icmp_gt (tgt := 57) hx hb dX9_roots_29 (by decide) (fun c5 => ?_) (fun c5 => ?_)
      · have ht := it_p c5 ht
        refine lv_iload_n hx hb dX9_roots_57 rfl (lv_at hl 2 rfl) ?_
        refine lv_iconst (v := 1) hx hb dX9_roots_58 (by decide) ?_
        refine lv_icmp_ne (tgt := 70) hx hb dX9_roots_59 (by decide) (fun c6 => ?_) (fun c6 => ?_)
        · have ht := it_n c6 ht
          refine lv_aload_n hx hb dX9_roots_70 rfl (lv_at hl 0 rfl) ?_
          refine va_get (D := D) (ci := 9) (v := .ref (d0 33)) (C := RX9) (T := TX9) (N := 37) hx hb hts hi9 hown hE.1 hP 0 rfl rfl 32 (by decide) hw1 (fun _ h9 => h9) rfl dX9_roots_71 ?_
          refine lv_iload_n hx hb dX9_roots_74 rfl (lv_at hl 1 rfl) ?_
          obtain ⟨g7, ht⟩ := it_g ht
          refine va_zald hx hb hE.1 hP 20 1 rfl rfl (q_in g7) dX9_roots_75 ?_
          refine lv_if_eq (tgt := 83) hx hb dX9_roots_76 (by decide) (fun c8 => ?_) (fun c8 => ?_)
          · have ht := it_p c8 ht
            refine lv_iconst (v := 0) hx hb dX9_roots_83 (by decide) ?_
            subst hQ
            obtain rfl := Option.some.inj ht
            exact W.iret (v := 0) hx hb hr (fun t e1 hW => ⟨⟨_, (), rfl, ⟨rfl, trivial⟩, q_at e1 hP⟩, hS.F e1⟩) hS.2.2 dX9_roots_84
          · have ht := it_n c8 ht
            refine lv_iconst (v := 1) hx hb dX9_roots_79 (by decide) ?_
            refine lv_goto (tgt := 84) hx hb dX9_roots_80 (by decide) ?_
            subst hQ
            obtain rfl := Option.some.inj ht
            exact W.iret (v := 1) hx hb hr (fun t e1 hW => ⟨⟨_, (), rfl, ⟨rfl, trivial⟩, q_at e1 hP⟩, hS.F e1⟩) hS.2.2 dX9_roots_84
        · have ht := it_p c6 ht
          refine lv_aload_n hx hb dX9_roots_62 rfl (lv_at hl 0 rfl) ?_
          refine lv_iload_n hx hb dX9_roots_63 rfl (lv_at hl 1 rfl) ?_
          obtain ⟨q9, hq9, ht⟩ := it_b ht
          refine q_ri (va_runV (As := [.int p0]) (rest := []) ⟨hx, hb, hml, hown, hts⟩ (kX9_leastTake l D cI cZ cO d0 S0 p0 q9 hq9) (cwV 1 hts gX9_roots_X9_leastTake rfl rfl rfl (by decide +kernel) ⟨Nat.le_of_ble_eq_true rfl, Nat.le_of_ble_eq_true rfl⟩) (q_rV (As := [.int p0]) hE hP (q0 := 0) (ci := 9) rfl rfl) rfl rfl hl.1 rfl (lv_room (Nat.le_of_ble_eq_true rfl)) dX9_roots_64 ⟨Nat.le_of_ble_eq_true rfl, Nat.le_of_ble_eq_true rfl⟩) (fun b10 => ?_)
          refine lv_goto (tgt := 84) hx hb dX9_roots_67 (by decide) ?_
          subst hQ
          obtain rfl := Option.some.inj ht
          exact W.iret (v := q9) hx hb hr (fun t e1 hW => ⟨⟨_, (), rfl, ⟨rfl, trivial⟩, q_at e1 hP⟩, hS.F e1⟩) hS.2.2 dX9_roots_84
      · have ht := it_n c5 ht
        refine lv_aload_n hx hb dX9_roots_32 rfl (lv_at hl 0 rfl) ?_
        refine va_get (D := D) (ci := 9) (v := .ref (d0 33)) (C := RX9) (T := TX9) (N := 37) hx hb hts hi9 hown hE.1 hP 0 rfl rfl 32 (by decide) hw1 (fun _ h9 => h9) rfl dX9_roots_33 ?_
        refine lv_iload_n hx hb dX9_roots_36 rfl (lv_at hl 3 rfl) ?_
        refine lv_aload_n hx hb dX9_roots_37 rfl (lv_at hl 0 rfl) ?_
        refine lv_iload_n hx hb dX9_roots_38 rfl (lv_at hl 3 rfl) ?_
        obtain ⟨q11, hq11, ht⟩ := it_b ht
        refine q_ri (va_runV (As := [.int x3]) (rest := [.int x3, .ref (d0 33)]) ⟨hx, hb, hml, hown, hts⟩ (kX9_leastTake l D cI cZ cO d0 S0 x3 q11 hq11) (cwV 1 hts gX9_roots_X9_leastTake rfl rfl rfl (by decide +kernel) ⟨Nat.le_of_ble_eq_true rfl, Nat.le_of_ble_eq_true rfl⟩) (q_rV (As := [.int x3]) hE hP (q0 := 0) (ci := 9) rfl rfl) rfl rfl hl.1 rfl (lv_room (Nat.le_of_ble_eq_true rfl)) dX9_roots_39 ⟨Nat.le_of_ble_eq_true rfl, Nat.le_of_ble_eq_true rfl⟩) (fun b12 => ?_)
        refine lv_if_lt (tgt := 49) hx hb dX9_roots_42 (by decide) (fun c13 => ?_) (fun c13 => ?_)
        · have ht := it_p c13 ht
          refine lv_iconst (v := 0) hx hb dX9_roots_49 (by decide) ?_
          obtain ⟨g14, ht⟩ := it_g ht
          refine va_zast hx hb hE.1 hP (hD _) hS 20 1 rfl rfl (q_in g14) dX9_roots_50 (fun H locs hP _ hS => ?_)
          have hP : va_P D vwCl (wg9 cI cZ d0 (q_su S0 32 x3.toNatClampNeg (vp_nar .boolean 0))) H := hP
          obtain ⟨T15, eT15⟩ : ∃ z : St, z = q_su S0 32 x3.toNatClampNeg (vp_nar .boolean 0) := ⟨_, rfl⟩
          rw [← eT15] at hP
          have ht := it_l ht eT15
          refine lv_iinc (v := x3 + 1) (lv' := [(3, .int (x3 + 1)), (0, .ref (d0 0)), (1, .int p0), (2, .int p1)]) hx hb dX9_roots_51 hl (k := 3) rfl rfl (by decide) rfl (fun ls hl => ?_)
          refine lv_goto (tgt := 27) hx hb dX9_roots_54 (by decide) ?_
          exact ih27 (x3 + 1) T15 _ _ hP hS ls (lv_sub hl [1, 2, 3, 0] rfl) ht
        · have ht := it_n c13 ht
          refine lv_iconst (v := 1) hx hb dX9_roots_45 (by decide) ?_
          refine lv_goto (tgt := 50) hx hb dX9_roots_46 (by decide) ?_
          obtain ⟨g16, ht⟩ := it_g ht
          refine va_zast hx hb hE.1 hP (hD _) hS 20 1 rfl rfl (q_in g16) dX9_roots_50 (fun H locs hP _ hS => ?_)
          have hP : va_P D vwCl (wg9 cI cZ d0 (q_su S0 32 x3.toNatClampNeg (vp_nar .boolean 1))) H := hP
          obtain ⟨T17, eT17⟩ : ∃ z : St, z = q_su S0 32 x3.toNatClampNeg (vp_nar .boolean 1) := ⟨_, rfl⟩
          rw [← eT17] at hP
          have ht := it_l ht eT17
          refine lv_iinc (v := x3 + 1) (lv' := [(3, .int (x3 + 1)), (0, .ref (d0 0)), (1, .int p0), (2, .int p1)]) hx hb dX9_roots_51 hl (k := 3) rfl rfl (by decide) rfl (fun ls hl => ?_)
          refine lv_goto (tgt := 27) hx hb dX9_roots_54 (by decide) ?_
          exact ih27 (x3 + 1) T17 _ _ hP hS ls (lv_sub hl [1, 2, 3, 0] rfl) ht
  refine lv_iload_n hx hb dX9_roots_0 rfl (lv_at hl 1 rfl) ?_
  refine lv_i2l (v := p0.toInt64) hx hb dX9_roots_1 rfl ?_
  refine lv_lconst (v := 0) hx hb dX9_roots_2 (by decide) ?_
  refine lv_ldc2 hx hb hown hw0 dX9_roots_3 ?_
  refine q_ri (va_runS (As := [.long p0.toInt64, .long 0, .long 999]) (rest := []) ⟨hx, hb, hml, hown, hts⟩ (kX9_in l D cI cZ cO p0.toInt64 0 999) (va_cwS 3 hts gX9_roots_X9_in rfl rfl rfl (by decide +kernel) ⟨Nat.le_of_ble_eq_true rfl, Nat.le_of_ble_eq_true rfl⟩) (q_rS hE q_nil) rfl rfl hl.1 rfl (lv_room (Nat.le_of_ble_eq_true rfl)) dX9_roots_6 ⟨Nat.le_of_ble_eq_true rfl, Nat.le_of_ble_eq_true rfl⟩) (fun b1 => ?_)
  refine lv_if_eq (tgt := 22) hx hb dX9_roots_9 (by decide) (fun c2 => ?_) (fun c2 => ?_)
  · have ht := it_p c2 ht
    refine lv_bipush (v := (-2)) hx hb dX9_roots_22 (by decide) ?_
    subst hQ
    obtain rfl := Option.some.inj ht
    exact W.iret (v := (-2)) hx hb hr (fun t e1 hW => ⟨⟨_, (), rfl, ⟨rfl, trivial⟩, q_at e1 hP⟩, hS.F e1⟩) hS.2.2 dX9_roots_24
  · have ht := it_n c2 ht
    refine lv_iload_n hx hb dX9_roots_12 rfl (lv_at hl 2 rfl) ?_
    refine lv_i2l (v := p1.toInt64) hx hb dX9_roots_13 rfl ?_
    refine lv_lconst (v := 0) hx hb dX9_roots_14 (by decide) ?_
    refine lv_lconst (v := 1) hx hb dX9_roots_15 (by decide) ?_
    refine q_ri (va_runS (As := [.long p1.toInt64, .long 0, .long 1]) (rest := []) ⟨hx, hb, hml, hown, hts⟩ (kX9_in l D cI cZ cO p1.toInt64 0 1) (va_cwS 3 hts gX9_roots_X9_in rfl rfl rfl (by decide +kernel) ⟨Nat.le_of_ble_eq_true rfl, Nat.le_of_ble_eq_true rfl⟩) (q_rS hE q_nil) rfl rfl hl.1 rfl (lv_room (Nat.le_of_ble_eq_true rfl)) dX9_roots_16 ⟨Nat.le_of_ble_eq_true rfl, Nat.le_of_ble_eq_true rfl⟩) (fun b3 => ?_)
    refine lv_if_ne (tgt := 25) hx hb dX9_roots_19 (by decide) (fun c4 => ?_) (fun c4 => ?_)
    · have ht := it_n c4 ht
      refine lv_iconst (v := 0) hx hb dX9_roots_25 (by decide) ?_
      refine lv_istore_n (lv' := [(3, .int 0), (0, .ref (d0 0)), (1, .int p0), (2, .int p1)]) hx hb dX9_roots_26 rfl hl (by decide) rfl (fun ls hl => ?_)
      exact L27 5000 0 S0 _ _ hP hS ls (lv_sub hl [1, 2, 3, 0] rfl) ht
    · have ht := it_p c4 ht
      refine lv_bipush (v := (-2)) hx hb dX9_roots_22 (by decide) ?_
      subst hQ
      obtain rfl := Option.some.inj ht
      exact W.iret (v := (-2)) hx hb hr (fun t e1 hW => ⟨⟨_, (), rfl, ⟨rfl, trivial⟩, q_at e1 hP⟩, hS.F e1⟩) hS.2.2 dX9_roots_24
abbrev rmX9_lowest : Room := { frames := 0, cells := 0, slots := 0, locals := 0 }
set_option maxHeartbeats 4000000 in
set_option maxRecDepth 100000 in
theorem kX9_lowest (l : Launch) (D : va_G) (cI cZ cO : ClassId) (p0 : Int64) (p1 : Int64) (p2 : Int32) (tg : Int64) (ht : xX9_lowest p0 p1 p2 = some tg) : Met l yX9_lowest wsX9_lowest rmX9_lowest (q_PR D cI cZ cO [.long p0, .long p1, .int p2] ([] : va_W)) (vp_Sl (fun x => x = tg)) 0 0 (fun _ => False) := by
  refine Met.ofW (cc := cX9_lowest) (maxL := 11) (ret := (some .long)) (by decide) rfl ?_
  intro p e s m args below meth c s₁ B hml hv
  obtain ⟨rfl, hE, hP⟩ := hv
  have hx := B.exec
  have hb := B.bytes
  have hr := B.returns
  have hts := atoms_spec (ws := wsX9_lowest) B.pre
  have hown : s.vm.findClass RX9 = some m.cls := findClass_of_methodNamed B.named
  have hlocks := B.notSynchronized
  have hl := lv_entry ([.long p0, .long p1, .int p2]) (n := 11) (Nat.le_of_ble_eq_true rfl)
  rw [lg_entry_eq]
  generalize (lg_sl ([.long p0, .long p1, .int p2]) ++ List.replicate (11 - (lg_sl ([.long p0, .long p1, .int p2])).length) Slot.unset).toArray = ls at hl ⊢
  have hl : lv_has ls 11 [(0, .long p0), (2, .long p1), (4, .int p2)] := hl
  have ht := (xX9_lowest_s p0 p1 p2).symm.trans ht
  obtain ⟨Q, hQ⟩ : ∃ Q, Q = MQ below (vp_Sl (fun x => x = tg)) ([.long p0, .long p1, .int p2] : List Value).toArray s 0 0 (fun _ => False) := ⟨_, rfl⟩
  rw [← hQ]
  have L6 : ∀ (n : Nat) (x5 : Int64) (x7 : Int64) (ls : Array Slot) (_ : lv_has ls 11 [(0, .long p0), (2, .long p1), (4, .int p2), (5, .long x5), (7, .long x7)]) (_ : xX9_lowest_h6 p0 p1 p2 n x5 x7 = some tg), W p l e (headSpec wsX9_lowest rmX9_lowest).room s m ([.long p0, .long p1, .int p2] : List Value).toArray below meth c s.heap [] 0 0 Q (F0 m 6 ls []) := by
    intro n
    induction n with
    | zero =>
      intro x5 x7 ls hl ht
      exact it_z ht
    | succ n6 ih6 =>
      intro x5 x7 ls hl ht
      have ht := (xX9_lowest_h6_s p0 p1 p2 n6 x5 x7).symm.trans ht
      refine lv_lload hx hb dX9_lowest_6 (lv_at hl 4 rfl) ?_
      refine lv_lconst (v := 0) hx hb dX9_lowest_8 (by decide) ?_
      refine W.lcmp hx hb dX9_lowest_9 ?_
      refine lv_if_eq (tgt := 31) hx hb dX9_lowest_10 (by decide) (fun c1 => ?_) (fun c1 => ?_)
      · have ht := it_p c1 ht
        refine lv_iload hx hb dX9_lowest_31 (lv_at hl 2 rfl) ?_
        refine lv_if_ne (tgt := 43) hx hb dX9_lowest_33 (by decide) (fun c2 => ?_) (fun c2 => ?_)
        · have ht := it_n c2 ht
          refine lv_lload_n hx hb dX9_lowest_43 rfl (lv_at hl 1 rfl) ?_
          refine lv_lload hx hb dX9_lowest_44 (lv_at hl 3 rfl) ?_
          obtain ⟨g3, ht⟩ := it_d ht
          refine lv_ldiv hx hb dX9_lowest_46 g3 ?_
          subst hQ
          have ht := Option.some.inj ht
          exact W.lret (v := p1 / x5) hx hb hr (fun t e1 hW => ⟨_, rfl, ht, e1⟩) (fun q h => absurd h List.not_mem_nil) dX9_lowest_47
        · have ht := it_p c2 ht
          refine lv_lload_n hx hb dX9_lowest_36 rfl (lv_at hl 0 rfl) ?_
          refine lv_lload hx hb dX9_lowest_37 (lv_at hl 3 rfl) ?_
          obtain ⟨g4, ht⟩ := it_d ht
          refine lv_ldiv hx hb dX9_lowest_39 g4 ?_
          refine lv_goto (tgt := 47) hx hb dX9_lowest_40 (by decide) ?_
          subst hQ
          have ht := Option.some.inj ht
          exact W.lret (v := p0 / x5) hx hb hr (fun t e1 hW => ⟨_, rfl, ht, e1⟩) (fun q h => absurd h List.not_mem_nil) dX9_lowest_47
      · have ht := it_n c1 ht
        refine lv_lload hx hb dX9_lowest_13 (lv_at hl 3 rfl) ?_
        refine lv_lload hx hb dX9_lowest_15 (lv_at hl 4 rfl) ?_
        obtain ⟨g5, ht⟩ := it_d ht
        refine q_lrem hx hb dX9_lowest_17 g5 ?_
        refine lv_lstore (lv' := [(9, .long (q_reml x5 x7)), (0, .long p0), (2, .long p1), (4, .int p2), (5, .long x5), (7, .long x7)]) hx hb dX9_lowest_18 hl (by decide) rfl (fun ls hl => ?_)
        refine lv_lload hx hb dX9_lowest_20 (lv_at hl 5 rfl) ?_
        refine lv_lstore (lv' := [(5, .long x7), (9, .long (q_reml x5 x7)), (0, .long p0), (2, .long p1), (4, .int p2), (7, .long x7)]) hx hb dX9_lowest_22 hl (by decide) rfl (fun ls hl => ?_)
        refine lv_lload hx hb dX9_lowest_24 (lv_at hl 1 rfl) ?_
        refine lv_lstore (lv' := [(7, .long (q_reml x5 x7)), (5, .long x7), (9, .long (q_reml x5 x7)), (0, .long p0), (2, .long p1), (4, .int p2)]) hx hb dX9_lowest_26 hl (by decide) rfl (fun ls hl => ?_)
        refine lv_goto (tgt := 6) hx hb dX9_lowest_28 (by decide) ?_
        exact ih6 x7 (q_reml x5 x7) ls (lv_sub hl [3, 4, 5, 1, 0] rfl) ht
  refine lv_lload_n hx hb dX9_lowest_0 rfl (lv_at hl 1 rfl) ?_
  refine lv_lstore (lv' := [(5, .long p1), (0, .long p0), (2, .long p1), (4, .int p2)]) hx hb dX9_lowest_1 hl (by decide) rfl (fun ls hl => ?_)
  refine lv_lload_n hx hb dX9_lowest_3 rfl (lv_at hl 1 rfl) ?_
  refine lv_lstore (lv' := [(7, .long p0), (5, .long p1), (0, .long p0), (2, .long p1), (4, .int p2)]) hx hb dX9_lowest_4 hl (by decide) rfl (fun ls hl => ?_)
  exact L6 5000 p1 p0 ls (lv_sub hl [2, 3, 4, 1, 0] rfl) ht
abbrev rmX9_power : Room := { frames := 0, cells := 0, slots := 0, locals := 0 }
set_option maxHeartbeats 4000000 in
set_option maxRecDepth 100000 in
theorem kX9_power (l : Launch) (D : va_G) (cI cZ cO : ClassId) (p0 : Int64) (p1 : Int32) (tg : Int64) (ht : xX9_power p0 p1 = some tg) : Met l yX9_power wsX9_power rmX9_power (q_PR D cI cZ cO [.long p0, .int p1] ([] : va_W)) (vp_Sl (fun x => x = tg)) 0 0 (fun _ => False) := by
  refine Met.ofW (cc := cX9_power) (maxL := 6) (ret := (some .long)) (by decide) rfl ?_
  intro p e s m args below meth c s₁ B hml hv
  obtain ⟨rfl, hE, hP⟩ := hv
  have hx := B.exec
  have hb := B.bytes
  have hr := B.returns
  have hts := atoms_spec (ws := wsX9_power) B.pre
  have hown : s.vm.findClass RX9 = some m.cls := findClass_of_methodNamed B.named
  have hlocks := B.notSynchronized
  have hl := lv_entry ([.long p0, .int p1]) (n := 6) (Nat.le_of_ble_eq_true rfl)
  rw [lg_entry_eq]
  generalize (lg_sl ([.long p0, .int p1]) ++ List.replicate (6 - (lg_sl ([.long p0, .int p1])).length) Slot.unset).toArray = ls at hl ⊢
  have hl : lv_has ls 6 [(0, .long p0), (2, .int p1)] := hl
  have ht := (xX9_power_s p0 p1).symm.trans ht
  obtain ⟨Q, hQ⟩ : ∃ Q, Q = MQ below (vp_Sl (fun x => x = tg)) ([.long p0, .int p1] : List Value).toArray s 0 0 (fun _ => False) := ⟨_, rfl⟩
  rw [← hQ]
  have L5 : ∀ (n : Nat) (x3 : Int64) (x5 : Int32) (ls : Array Slot) (_ : lv_has ls 6 [(0, .long p0), (2, .int p1), (3, .long x3), (5, .int x5)]) (_ : xX9_power_h5 p0 p1 n x3 x5 = some tg), W p l e (headSpec wsX9_power rmX9_power).room s m ([.long p0, .int p1] : List Value).toArray below meth c s.heap [] 0 0 Q (F0 m 5 ls []) := by
    intro n
    induction n with
    | zero =>
      intro x3 x5 ls hl ht
      exact it_z ht
    | succ n5 ih5 =>
      intro x3 x5 ls hl ht
      have ht := (xX9_power_h5_s p0 p1 n5 x3 x5).symm.trans ht
      refine lv_iload hx hb dX9_power_5 (lv_at hl 3 rfl) ?_
      refine lv_iload_n hx hb dX9_power_7 rfl (lv_at hl 1 rfl) ?_
      refine lv_icmp_ge (tgt := 21) hx hb dX9_power_8 (by decide) (fun c1 => ?_) (fun c1 => ?_)
      · have ht := it_p c1 ht
        refine lv_lload_n hx hb dX9_power_21 rfl (lv_at hl 2 rfl) ?_
        subst hQ
        have ht := Option.some.inj ht
        exact W.lret (v := x3) hx hb hr (fun t e1 hW => ⟨_, rfl, ht, e1⟩) (fun q h => absurd h List.not_mem_nil) dX9_power_22
      · have ht := it_n c1 ht
        refine lv_lload_n hx hb dX9_power_11 rfl (lv_at hl 2 rfl) ?_
        refine lv_lload_n hx hb dX9_power_12 rfl (lv_at hl 0 rfl) ?_
        refine lv_lmul hx hb dX9_power_13 ?_
        refine lv_lstore_n (lv' := [(3, .long (x3 * p0)), (0, .long p0), (2, .int p1), (5, .int x5)]) hx hb dX9_power_14 rfl hl (by decide) rfl (fun ls hl => ?_)
        refine lv_iinc (v := x5 + 1) (lv' := [(5, .int (x5 + 1)), (3, .long (x3 * p0)), (0, .long p0), (2, .int p1)]) hx hb dX9_power_15 hl (k := 3) rfl rfl (by decide) rfl (fun ls hl => ?_)
        refine lv_goto (tgt := 5) hx hb dX9_power_18 (by decide) ?_
        exact ih5 (x3 * p0) (x5 + 1) ls (lv_sub hl [2, 3, 1, 0] rfl) ht
  refine lv_lconst (v := 1) hx hb dX9_power_0 (by decide) ?_
  refine lv_lstore_n (lv' := [(3, .long 1), (0, .long p0), (2, .int p1)]) hx hb dX9_power_1 rfl hl (by decide) rfl (fun ls hl => ?_)
  refine lv_iconst (v := 0) hx hb dX9_power_2 (by decide) ?_
  refine lv_istore (lv' := [(5, .int 0), (3, .long 1), (0, .long p0), (2, .int p1)]) hx hb dX9_power_3 hl (by decide) rfl (fun ls hl => ?_)
  exact L5 5000 1 0 ls (lv_sub hl [2, 3, 1, 0] rfl) ht
abbrev rmX9_choose : Room := { frames := 0, cells := 0, slots := 0, locals := 0 }
set_option maxHeartbeats 4000000 in
set_option maxRecDepth 100000 in
theorem kX9_choose (l : Launch) (D : va_G) (cI cZ cO : ClassId) (p0 : Int32) (p1 : Int32) (tg : Int64) (ht : xX9_choose p0 p1 = some tg) : Met l yX9_choose wsX9_choose rmX9_choose (q_PR D cI cZ cO [.int p0, .int p1] ([] : va_W)) (vp_Sl (fun x => x = tg)) 0 0 (fun _ => False) := by
  refine Met.ofW (cc := cX9_choose) (maxL := 5) (ret := (some .long)) (by decide) rfl ?_
  intro p e s m args below meth c s₁ B hml hv
  obtain ⟨rfl, hE, hP⟩ := hv
  have hx := B.exec
  have hb := B.bytes
  have hr := B.returns
  have hts := atoms_spec (ws := wsX9_choose) B.pre
  have hown : s.vm.findClass RX9 = some m.cls := findClass_of_methodNamed B.named
  have hlocks := B.notSynchronized
  have hl := lv_entry ([.int p0, .int p1]) (n := 5) (Nat.le_of_ble_eq_true rfl)
  rw [lg_entry_eq]
  generalize (lg_sl ([.int p0, .int p1]) ++ List.replicate (5 - (lg_sl ([.int p0, .int p1])).length) Slot.unset).toArray = ls at hl ⊢
  have hl : lv_has ls 5 [(0, .int p0), (1, .int p1)] := hl
  have ht := (xX9_choose_s p0 p1).symm.trans ht
  obtain ⟨Q, hQ⟩ : ∃ Q, Q = MQ below (vp_Sl (fun x => x = tg)) ([.int p0, .int p1] : List Value).toArray s 0 0 (fun _ => False) := ⟨_, rfl⟩
  rw [← hQ]
  have L5 : ∀ (n : Nat) (x2 : Int64) (x4 : Int32) (ls : Array Slot) (_ : lv_has ls 5 [(0, .int p0), (1, .int p1), (2, .long x2), (4, .int x4)]) (_ : xX9_choose_h5 p0 p1 n x2 x4 = some tg), W p l e (headSpec wsX9_choose rmX9_choose).room s m ([.int p0, .int p1] : List Value).toArray below meth c s.heap [] 0 0 Q (F0 m 5 ls []) := by
    intro n
    induction n with
    | zero =>
      intro x2 x4 ls hl ht
      exact it_z ht
    | succ n5 ih5 =>
      intro x2 x4 ls hl ht
      have ht := (xX9_choose_h5_s p0 p1 n5 x2 x4).symm.trans ht
      refine lv_iload hx hb dX9_choose_5 (lv_at hl 3 rfl) ?_
      refine lv_iload_n hx hb dX9_choose_7 rfl (lv_at hl 1 rfl) ?_
      refine lv_icmp_ge (tgt := 31) hx hb dX9_choose_8 (by decide) (fun c1 => ?_) (fun c1 => ?_)
      · have ht := it_p c1 ht
        refine lv_lload_n hx hb dX9_choose_31 rfl (lv_at hl 2 rfl) ?_
        subst hQ
        have ht := Option.some.inj ht
        exact W.lret (v := x2) hx hb hr (fun t e1 hW => ⟨_, rfl, ht, e1⟩) (fun q h => absurd h List.not_mem_nil) dX9_choose_32
      · have ht := it_n c1 ht
        refine lv_lload_n hx hb dX9_choose_11 rfl (lv_at hl 2 rfl) ?_
        refine lv_iload_n hx hb dX9_choose_12 rfl (lv_at hl 0 rfl) ?_
        refine lv_iload hx hb dX9_choose_13 (lv_at hl 3 rfl) ?_
        refine lv_isub hx hb dX9_choose_15 ?_
        refine lv_i2l (v := (p0 - x4).toInt64) hx hb dX9_choose_16 rfl ?_
        refine lv_lmul hx hb dX9_choose_17 ?_
        refine lv_iload hx hb dX9_choose_18 (lv_at hl 3 rfl) ?_
        refine lv_iconst (v := 1) hx hb dX9_choose_20 (by decide) ?_
        refine lv_iadd hx hb dX9_choose_21 ?_
        refine lv_i2l (v := (x4 + 1).toInt64) hx hb dX9_choose_22 rfl ?_
        obtain ⟨g2, ht⟩ := it_d ht
        refine lv_ldiv hx hb dX9_choose_23 g2 ?_
        refine lv_lstore_n (lv' := [(2, .long ((x2 * ((p0 - x4).toInt64)) / ((x4 + 1).toInt64))), (0, .int p0), (1, .int p1), (4, .int x4)]) hx hb dX9_choose_24 rfl hl (by decide) rfl (fun ls hl => ?_)
        refine lv_iinc (v := x4 + 1) (lv' := [(4, .int (x4 + 1)), (2, .long ((x2 * ((p0 - x4).toInt64)) / ((x4 + 1).toInt64))), (0, .int p0), (1, .int p1)]) hx hb dX9_choose_25 hl (k := 3) rfl rfl (by decide) rfl (fun ls hl => ?_)
        refine lv_goto (tgt := 5) hx hb dX9_choose_28 (by decide) ?_
        exact ih5 ((x2 * ((p0 - x4).toInt64)) / ((x4 + 1).toInt64)) (x4 + 1) ls (lv_sub hl [2, 3, 1, 0] rfl) ht
  refine lv_lconst (v := 1) hx hb dX9_choose_0 (by decide) ?_
  refine lv_lstore_n (lv' := [(2, .long 1), (0, .int p0), (1, .int p1)]) hx hb dX9_choose_1 rfl hl (by decide) rfl (fun ls hl => ?_)
  refine lv_iconst (v := 0) hx hb dX9_choose_2 (by decide) ?_
  refine lv_istore (lv' := [(4, .int 0), (2, .long 1), (0, .int p0), (1, .int p1)]) hx hb dX9_choose_3 hl (by decide) rfl (fun ls hl => ?_)
  exact L5 5000 1 0 ls (lv_sub hl [2, 3, 1, 0] rfl) ht
abbrev rmX9_strangers : Room := { frames := 0, cells := 0, slots := 0, locals := 0 }
set_option maxHeartbeats 4000000 in
set_option maxRecDepth 100000 in
theorem kX9_strangers (l : Launch) (D : va_G) (cI cZ cO : ClassId) (p0 : Int32) (tg : Int64) (ht : xX9_strangers p0 = some tg) : Met l yX9_strangers wsX9_strangers rmX9_strangers (q_PR D cI cZ cO [.int p0] ([] : va_W)) (vp_Sl (fun x => x = tg)) 0 0 (fun _ => False) := by
  refine Met.ofW (cc := cX9_strangers) (maxL := 8) (ret := (some .long)) (by decide) rfl ?_
  intro p e s m args below meth c s₁ B hml hv
  obtain ⟨rfl, hE, hP⟩ := hv
  have hx := B.exec
  have hb := B.bytes
  have hr := B.returns
  have hts := atoms_spec (ws := wsX9_strangers) B.pre
  have hown : s.vm.findClass RX9 = some m.cls := findClass_of_methodNamed B.named
  have hlocks := B.notSynchronized
  have hl := lv_entry ([.int p0]) (n := 8) (Nat.le_of_ble_eq_true rfl)
  rw [lg_entry_eq]
  generalize (lg_sl ([.int p0]) ++ List.replicate (8 - (lg_sl ([.int p0])).length) Slot.unset).toArray = ls at hl ⊢
  have hl : lv_has ls 8 [(0, .int p0)] := hl
  have ht := (xX9_strangers_s p0).symm.trans ht
  obtain ⟨Q, hQ⟩ : ∃ Q, Q = MQ below (vp_Sl (fun x => x = tg)) ([.int p0] : List Value).toArray s 0 0 (fun _ => False) := ⟨_, rfl⟩
  rw [← hQ]
  have L7 : ∀ (n : Nat) (x1 : Int64) (x3 : Int64) (x5 : Int32) (ls : Array Slot) (_ : lv_has ls 8 [(0, .int p0), (1, .long x1), (3, .long x3), (5, .int x5)]) (_ : xX9_strangers_h7 p0 n x1 x3 x5 = some tg), W p l e (headSpec wsX9_strangers rmX9_strangers).room s m ([.int p0] : List Value).toArray below meth c s.heap [] 0 0 Q (F0 m 7 ls []) := by
    intro n
    induction n with
    | zero =>
      intro x1 x3 x5 ls hl ht
      exact it_z ht
    | succ n7 ih7 =>
      intro x1 x3 x5 ls hl ht
      have ht := (xX9_strangers_h7_s p0 n7 x1 x3 x5).symm.trans ht
      refine lv_iload hx hb dX9_strangers_7 (lv_at hl 3 rfl) ?_
      refine lv_iload_n hx hb dX9_strangers_9 rfl (lv_at hl 0 rfl) ?_
      refine lv_icmp_gt (tgt := 35) hx hb dX9_strangers_10 (by decide) (fun c1 => ?_) (fun c1 => ?_)
      · have ht := it_p c1 ht
        refine lv_lload_n hx hb dX9_strangers_35 rfl (lv_at hl 2 rfl) ?_
        subst hQ
        have ht := Option.some.inj ht
        exact W.lret (v := x3) hx hb hr (fun t e1 hW => ⟨_, rfl, ht, e1⟩) (fun q h => absurd h List.not_mem_nil) dX9_strangers_36
      · have ht := it_n c1 ht
        refine lv_iload hx hb dX9_strangers_13 (lv_at hl 3 rfl) ?_
        refine lv_iconst (v := 1) hx hb dX9_strangers_15 (by decide) ?_
        refine lv_isub hx hb dX9_strangers_16 ?_
        refine lv_i2l (v := (x5 - 1).toInt64) hx hb dX9_strangers_17 rfl ?_
        refine lv_lload_n hx hb dX9_strangers_18 rfl (lv_at hl 2 rfl) ?_
        refine lv_lload_n hx hb dX9_strangers_19 rfl (lv_at hl 1 rfl) ?_
        refine lv_ladd hx hb dX9_strangers_20 ?_
        refine lv_lmul hx hb dX9_strangers_21 ?_
        refine lv_lstore (lv' := [(6, .long (((x5 - 1).toInt64) * (x3 + x1))), (0, .int p0), (1, .long x1), (3, .long x3), (5, .int x5)]) hx hb dX9_strangers_22 hl (by decide) rfl (fun ls hl => ?_)
        refine lv_lload_n hx hb dX9_strangers_24 rfl (lv_at hl 3 rfl) ?_
        refine lv_lstore_n (lv' := [(1, .long x3), (6, .long (((x5 - 1).toInt64) * (x3 + x1))), (0, .int p0), (3, .long x3), (5, .int x5)]) hx hb dX9_strangers_25 rfl hl (by decide) rfl (fun ls hl => ?_)
        refine lv_lload hx hb dX9_strangers_26 (lv_at hl 1 rfl) ?_
        refine lv_lstore_n (lv' := [(3, .long (((x5 - 1).toInt64) * (x3 + x1))), (1, .long x3), (6, .long (((x5 - 1).toInt64) * (x3 + x1))), (0, .int p0), (5, .int x5)]) hx hb dX9_strangers_28 rfl hl (by decide) rfl (fun ls hl => ?_)
        refine lv_iinc (v := x5 + 1) (lv' := [(5, .int (x5 + 1)), (3, .long (((x5 - 1).toInt64) * (x3 + x1))), (1, .long x3), (6, .long (((x5 - 1).toInt64) * (x3 + x1))), (0, .int p0)]) hx hb dX9_strangers_29 hl (k := 4) rfl rfl (by decide) rfl (fun ls hl => ?_)
        refine lv_goto (tgt := 7) hx hb dX9_strangers_32 (by decide) ?_
        exact ih7 x3 (((x5 - 1).toInt64) * (x3 + x1)) (x5 + 1) ls (lv_sub hl [4, 2, 1, 0] rfl) ht
  refine lv_lconst (v := 1) hx hb dX9_strangers_0 (by decide) ?_
  refine lv_lstore_n (lv' := [(1, .long 1), (0, .int p0)]) hx hb dX9_strangers_1 rfl hl (by decide) rfl (fun ls hl => ?_)
  refine lv_lconst (v := 0) hx hb dX9_strangers_2 (by decide) ?_
  refine lv_lstore_n (lv' := [(3, .long 0), (1, .long 1), (0, .int p0)]) hx hb dX9_strangers_3 rfl hl (by decide) rfl (fun ls hl => ?_)
  refine lv_iconst (v := 2) hx hb dX9_strangers_4 (by decide) ?_
  refine lv_istore (lv' := [(5, .int 2), (3, .long 0), (1, .long 1), (0, .int p0)]) hx hb dX9_strangers_5 hl (by decide) rfl (fun ls hl => ?_)
  exact L7 5000 1 0 2 ls (lv_sub hl [3, 2, 1, 0] rfl) ht
abbrev rmX9_thought : Room := { frames := 1, cells := 0, slots := 0, locals := 30 }
set_option maxHeartbeats 4000000 in
set_option maxRecDepth 100000 in
theorem kX9_thought (l : Launch) (D : va_G) (cI cZ cO : ClassId) (d0 : Nat → Nat) (S0 : St) (p0 : Int32) (p1 : Int32) (p2 : Int32) (p3 : Int32) (tg : Int64) (ht : xX9_thought S0 p0 p1 p2 p3 = some tg) : Met l yX9_thought wsX9_thought rmX9_thought (q_PR D cI cZ cO [.ref (d0 0), .int p0, .int p1, .int p2, .int p3] (wg9 cI cZ d0 S0)) (vp_Sl (fun x => x = tg)) 0 0 (fun _ => False) := by
  refine Met.ofW (cc := cX9_thought) (maxL := 6) (ret := (some .long)) (by decide) rfl ?_
  intro p e s m args below meth c s₁ B hml hv
  obtain ⟨rfl, hE, hP⟩ := hv
  have hx := B.exec
  have hb := B.bytes
  have hr := B.returns
  have hts := atoms_spec (ws := wsX9_thought) B.pre
  have hown : s.vm.findClass RX9 = some m.cls := findClass_of_methodNamed B.named
  have hlocks := B.notSynchronized
  have hw0 := hts (.constantLong RX9 233 (2)) (by decide +kernel)
  have hw1 := hts (.constantLong RX9 308 (12)) (by decide +kernel)
  have hw2 := hts (.constantLong RX9 310 (-1000000000000000002)) (by decide +kernel)
  have hl := lv_entry ([.ref (d0 0), .int p0, .int p1, .int p2, .int p3]) (n := 6) (Nat.le_of_ble_eq_true rfl)
  rw [lg_entry_eq]
  generalize (lg_sl ([.ref (d0 0), .int p0, .int p1, .int p2, .int p3]) ++ List.replicate (6 - (lg_sl ([.ref (d0 0), .int p0, .int p1, .int p2, .int p3])).length) Slot.unset).toArray = ls at hl ⊢
  have hl : lv_has ls 6 [(0, .ref (d0 0)), (1, .int p0), (2, .int p1), (3, .int p2), (4, .int p3)] := hl
  have ht := (xX9_thought_s S0 p0 p1 p2 p3).symm.trans ht
  refine lv_iload_n hx hb dX9_thought_0 rfl (lv_at hl 1 rfl) ?_
  refine lv_i2l (v := p0.toInt64) hx hb dX9_thought_1 rfl ?_
  refine lv_ldc2 hx hb hown hw0 dX9_thought_2 ?_
  refine lv_ldc2 hx hb hown hw1 dX9_thought_5 ?_
  refine q_ri (va_runS (As := [.long p0.toInt64, .long 2, .long 12]) (rest := []) ⟨hx, hb, hml, hown, hts⟩ (kX9_in l D cI cZ cO p0.toInt64 2 12) (va_cwS 3 hts gX9_thought_X9_in rfl rfl rfl (by decide +kernel) ⟨Nat.le_of_ble_eq_true rfl, Nat.le_of_ble_eq_true rfl⟩) (q_rS hE q_nil) rfl rfl hl.1 rfl (lv_room (Nat.le_of_ble_eq_true rfl)) dX9_thought_8 ⟨Nat.le_of_ble_eq_true rfl, Nat.le_of_ble_eq_true rfl⟩) (fun b1 => ?_)
  refine lv_if_eq (tgt := 50) hx hb dX9_thought_11 (by decide) (fun c2 => ?_) (fun c2 => ?_)
  · have ht := it_p c2 ht
    refine lv_ldc2 hx hb hown hw2 dX9_thought_50 ?_
    have ht := Option.some.inj ht
    exact W.lret (v := (-1000000000000000002)) hx hb hr (fun t e1 hW => ⟨_, rfl, ht, e1⟩) (fun q h => absurd h List.not_mem_nil) dX9_thought_53
  · have ht := it_n c2 ht
    refine lv_iload_n hx hb dX9_thought_14 rfl (lv_at hl 2 rfl) ?_
    refine lv_i2l (v := p1.toInt64) hx hb dX9_thought_15 rfl ?_
    refine lv_lconst (v := 0) hx hb dX9_thought_16 (by decide) ?_
    refine lv_iload_n hx hb dX9_thought_17 rfl (lv_at hl 1 rfl) ?_
    refine lv_iconst (v := 1) hx hb dX9_thought_18 (by decide) ?_
    refine lv_isub hx hb dX9_thought_19 ?_
    refine lv_i2l (v := (p0 - 1).toInt64) hx hb dX9_thought_20 rfl ?_
    refine q_ri (va_runS (As := [.long p1.toInt64, .long 0, .long ((p0 - 1).toInt64)]) (rest := []) ⟨hx, hb, hml, hown, hts⟩ (kX9_in l D cI cZ cO p1.toInt64 0 ((p0 - 1).toInt64)) (va_cwS 3 hts gX9_thought_X9_in rfl rfl rfl (by decide +kernel) ⟨Nat.le_of_ble_eq_true rfl, Nat.le_of_ble_eq_true rfl⟩) (q_rS hE q_nil) rfl rfl hl.1 rfl (lv_room (Nat.le_of_ble_eq_true rfl)) dX9_thought_21 ⟨Nat.le_of_ble_eq_true rfl, Nat.le_of_ble_eq_true rfl⟩) (fun b3 => ?_)
    refine lv_if_eq (tgt := 50) hx hb dX9_thought_24 (by decide) (fun c4 => ?_) (fun c4 => ?_)
    · have ht := it_p c4 ht
      refine lv_ldc2 hx hb hown hw2 dX9_thought_50 ?_
      have ht := Option.some.inj ht
      exact W.lret (v := (-1000000000000000002)) hx hb hr (fun t e1 hW => ⟨_, rfl, ht, e1⟩) (fun q h => absurd h List.not_mem_nil) dX9_thought_53
    · have ht := it_n c4 ht
      refine lv_iload_n hx hb dX9_thought_27 rfl (lv_at hl 3 rfl) ?_
      refine lv_i2l (v := p2.toInt64) hx hb dX9_thought_28 rfl ?_
      refine lv_lconst (v := 0) hx hb dX9_thought_29 (by decide) ?_
      refine lv_ldc2 hx hb hown hw0 dX9_thought_30 ?_
      refine q_ri (va_runS (As := [.long p2.toInt64, .long 0, .long 2]) (rest := []) ⟨hx, hb, hml, hown, hts⟩ (kX9_in l D cI cZ cO p2.toInt64 0 2) (va_cwS 3 hts gX9_thought_X9_in rfl rfl rfl (by decide +kernel) ⟨Nat.le_of_ble_eq_true rfl, Nat.le_of_ble_eq_true rfl⟩) (q_rS hE q_nil) rfl rfl hl.1 rfl (lv_room (Nat.le_of_ble_eq_true rfl)) dX9_thought_33 ⟨Nat.le_of_ble_eq_true rfl, Nat.le_of_ble_eq_true rfl⟩) (fun b5 => ?_)
      refine lv_if_eq (tgt := 50) hx hb dX9_thought_36 (by decide) (fun c6 => ?_) (fun c6 => ?_)
      · have ht := it_p c6 ht
        refine lv_ldc2 hx hb hown hw2 dX9_thought_50 ?_
        have ht := Option.some.inj ht
        exact W.lret (v := (-1000000000000000002)) hx hb hr (fun t e1 hW => ⟨_, rfl, ht, e1⟩) (fun q h => absurd h List.not_mem_nil) dX9_thought_53
      · have ht := it_n c6 ht
        refine lv_iload hx hb dX9_thought_39 (lv_at hl 4 rfl) ?_
        refine lv_i2l (v := p3.toInt64) hx hb dX9_thought_41 rfl ?_
        refine lv_lconst (v := 0) hx hb dX9_thought_42 (by decide) ?_
        refine lv_lconst (v := 1) hx hb dX9_thought_43 (by decide) ?_
        refine q_ri (va_runS (As := [.long p3.toInt64, .long 0, .long 1]) (rest := []) ⟨hx, hb, hml, hown, hts⟩ (kX9_in l D cI cZ cO p3.toInt64 0 1) (va_cwS 3 hts gX9_thought_X9_in rfl rfl rfl (by decide +kernel) ⟨Nat.le_of_ble_eq_true rfl, Nat.le_of_ble_eq_true rfl⟩) (q_rS hE q_nil) rfl rfl hl.1 rfl (lv_room (Nat.le_of_ble_eq_true rfl)) dX9_thought_44 ⟨Nat.le_of_ble_eq_true rfl, Nat.le_of_ble_eq_true rfl⟩) (fun b7 => ?_)
        refine lv_if_ne (tgt := 54) hx hb dX9_thought_47 (by decide) (fun c8 => ?_) (fun c8 => ?_)
        · have ht := it_n c8 ht
          refine lv_iload_n hx hb dX9_thought_54 rfl (lv_at hl 1 rfl) ?_
          refine lv_iconst (v := 1) hx hb dX9_thought_55 (by decide) ?_
          refine lv_isub hx hb dX9_thought_56 ?_
          refine lv_istore (lv' := [(5, .int (p0 - 1)), (0, .ref (d0 0)), (1, .int p0), (2, .int p1), (3, .int p2), (4, .int p3)]) hx hb dX9_thought_57 hl (by decide) rfl (fun ls hl => ?_)
          refine lv_iload_n hx hb dX9_thought_59 rfl (lv_at hl 4 rfl) ?_
          refine lv_iconst (v := 1) hx hb dX9_thought_60 (by decide) ?_
          refine lv_icmp_ne (tgt := 78) hx hb dX9_thought_61 (by decide) (fun c9 => ?_) (fun c9 => ?_)
          · have ht := it_n c9 ht
            refine lv_iload_n hx hb dX9_thought_78 rfl (lv_at hl 4 rfl) ?_
            refine lv_iconst (v := 2) hx hb dX9_thought_79 (by decide) ?_
            refine lv_icmp_ne (tgt := 100) hx hb dX9_thought_80 (by decide) (fun c10 => ?_) (fun c10 => ?_)
            · have ht := it_n c10 ht
              refine lv_iload hx hb dX9_thought_100 (lv_at hl 0 rfl) ?_
              refine lv_iload_n hx hb dX9_thought_102 rfl (lv_at hl 3 rfl) ?_
              obtain ⟨q11, hq11, ht⟩ := it_b ht
              refine q_rl (va_runS (As := [.int (p0 - 1), .int p1]) (rest := []) ⟨hx, hb, hml, hown, hts⟩ (kX9_choose l D cI cZ cO (p0 - 1) p1 q11 hq11) (va_cwS 2 hts gX9_thought_X9_choose rfl rfl rfl (by decide +kernel) ⟨Nat.le_of_ble_eq_true rfl, Nat.le_of_ble_eq_true rfl⟩) (q_rS hE q_nil) rfl rfl hl.1 rfl (lv_room (Nat.le_of_ble_eq_true rfl)) dX9_thought_103 ⟨Nat.le_of_ble_eq_true rfl, Nat.le_of_ble_eq_true rfl⟩) ?_
              refine lv_iload hx hb dX9_thought_106 (lv_at hl 0 rfl) ?_
              refine lv_iconst (v := 1) hx hb dX9_thought_108 (by decide) ?_
              refine lv_isub hx hb dX9_thought_109 ?_
              refine lv_i2l (v := ((p0 - 1) - 1).toInt64) hx hb dX9_thought_110 rfl ?_
              refine lv_iload hx hb dX9_thought_111 (lv_at hl 0 rfl) ?_
              refine lv_iload_n hx hb dX9_thought_113 rfl (lv_at hl 3 rfl) ?_
              refine lv_isub hx hb dX9_thought_114 ?_
              obtain ⟨q12, hq12, ht⟩ := it_b ht
              refine q_rl (va_runS (As := [.long (((p0 - 1) - 1).toInt64), .int ((p0 - 1) - p1)]) (rest := [.long q11]) ⟨hx, hb, hml, hown, hts⟩ (kX9_power l D cI cZ cO (((p0 - 1) - 1).toInt64) ((p0 - 1) - p1) q12 hq12) (va_cwS 2 hts gX9_thought_X9_power rfl rfl rfl (by decide +kernel) ⟨Nat.le_of_ble_eq_true rfl, Nat.le_of_ble_eq_true rfl⟩) (q_rS hE q_nil) rfl rfl hl.1 rfl (lv_room (Nat.le_of_ble_eq_true rfl)) dX9_thought_115 ⟨Nat.le_of_ble_eq_true rfl, Nat.le_of_ble_eq_true rfl⟩) ?_
              refine lv_lmul hx hb dX9_thought_118 ?_
              refine lv_iload hx hb dX9_thought_119 (lv_at hl 0 rfl) ?_
              refine lv_i2l (v := (p0 - 1).toInt64) hx hb dX9_thought_121 rfl ?_
              refine lv_iload hx hb dX9_thought_122 (lv_at hl 0 rfl) ?_
              obtain ⟨q13, hq13, ht⟩ := it_b ht
              refine q_rl (va_runS (As := [.long ((p0 - 1).toInt64), .int (p0 - 1)]) (rest := [.long (q11 * q12)]) ⟨hx, hb, hml, hown, hts⟩ (kX9_power l D cI cZ cO ((p0 - 1).toInt64) (p0 - 1) q13 hq13) (va_cwS 2 hts gX9_thought_X9_power rfl rfl rfl (by decide +kernel) ⟨Nat.le_of_ble_eq_true rfl, Nat.le_of_ble_eq_true rfl⟩) (q_rS hE q_nil) rfl rfl hl.1 rfl (lv_room (Nat.le_of_ble_eq_true rfl)) dX9_thought_124 ⟨Nat.le_of_ble_eq_true rfl, Nat.le_of_ble_eq_true rfl⟩) ?_
              refine lv_iload hx hb dX9_thought_127 (lv_at hl 5 rfl) ?_
              obtain ⟨q14, hq14, ht⟩ := it_b ht
              refine q_rl (va_runS (As := [.long (q11 * q12), .long q13, .int p3]) (rest := []) ⟨hx, hb, hml, hown, hts⟩ (kX9_lowest l D cI cZ cO (q11 * q12) q13 p3 q14 hq14) (va_cwS 3 hts gX9_thought_X9_lowest rfl rfl rfl (by decide +kernel) ⟨Nat.le_of_ble_eq_true rfl, Nat.le_of_ble_eq_true rfl⟩) (q_rS hE q_nil) rfl rfl hl.1 rfl (lv_room (Nat.le_of_ble_eq_true rfl)) dX9_thought_129 ⟨Nat.le_of_ble_eq_true rfl, Nat.le_of_ble_eq_true rfl⟩) ?_
              have ht := Option.some.inj ht
              exact W.lret (v := q14) hx hb hr (fun t e1 hW => ⟨_, rfl, ht, e1⟩) (fun q h => absurd h List.not_mem_nil) dX9_thought_132
            · have ht := it_p c10 ht
              refine lv_iload_n hx hb dX9_thought_83 rfl (lv_at hl 2 rfl) ?_
              obtain ⟨q15, hq15, ht⟩ := it_b ht
              refine q_rl (va_runS (As := [.int p0]) (rest := []) ⟨hx, hb, hml, hown, hts⟩ (kX9_strangers l D cI cZ cO p0 q15 hq15) (va_cwS 1 hts gX9_thought_X9_strangers rfl rfl rfl (by decide +kernel) ⟨Nat.le_of_ble_eq_true rfl, Nat.le_of_ble_eq_true rfl⟩) (q_rS hE q_nil) rfl rfl hl.1 rfl (lv_room (Nat.le_of_ble_eq_true rfl)) dX9_thought_84 ⟨Nat.le_of_ble_eq_true rfl, Nat.le_of_ble_eq_true rfl⟩) ?_
              refine lv_iload hx hb dX9_thought_87 (lv_at hl 0 rfl) ?_
              refine lv_i2l (v := (p0 - 1).toInt64) hx hb dX9_thought_89 rfl ?_
              refine lv_iload_n hx hb dX9_thought_90 rfl (lv_at hl 2 rfl) ?_
              obtain ⟨q16, hq16, ht⟩ := it_b ht
              refine q_rl (va_runS (As := [.long ((p0 - 1).toInt64), .int p0]) (rest := [.long q15]) ⟨hx, hb, hml, hown, hts⟩ (kX9_power l D cI cZ cO ((p0 - 1).toInt64) p0 q16 hq16) (va_cwS 2 hts gX9_thought_X9_power rfl rfl rfl (by decide +kernel) ⟨Nat.le_of_ble_eq_true rfl, Nat.le_of_ble_eq_true rfl⟩) (q_rS hE q_nil) rfl rfl hl.1 rfl (lv_room (Nat.le_of_ble_eq_true rfl)) dX9_thought_91 ⟨Nat.le_of_ble_eq_true rfl, Nat.le_of_ble_eq_true rfl⟩) ?_
              refine lv_iload hx hb dX9_thought_94 (lv_at hl 5 rfl) ?_
              obtain ⟨q17, hq17, ht⟩ := it_b ht
              refine q_rl (va_runS (As := [.long q15, .long q16, .int p3]) (rest := []) ⟨hx, hb, hml, hown, hts⟩ (kX9_lowest l D cI cZ cO q15 q16 p3 q17 hq17) (va_cwS 3 hts gX9_thought_X9_lowest rfl rfl rfl (by decide +kernel) ⟨Nat.le_of_ble_eq_true rfl, Nat.le_of_ble_eq_true rfl⟩) (q_rS hE q_nil) rfl rfl hl.1 rfl (lv_room (Nat.le_of_ble_eq_true rfl)) dX9_thought_96 ⟨Nat.le_of_ble_eq_true rfl, Nat.le_of_ble_eq_true rfl⟩) ?_
              have ht := Option.some.inj ht
              exact W.lret (v := q17) hx hb hr (fun t e1 hW => ⟨_, rfl, ht, e1⟩) (fun q h => absurd h List.not_mem_nil) dX9_thought_99
          · have ht := it_p c9 ht
            refine lv_lconst (v := 1) hx hb dX9_thought_64 (by decide) ?_
            refine lv_iload hx hb dX9_thought_65 (lv_at hl 0 rfl) ?_
            refine lv_i2l (v := (p0 - 1).toInt64) hx hb dX9_thought_67 rfl ?_
            refine lv_iconst (v := 2) hx hb dX9_thought_68 (by decide) ?_
            obtain ⟨q18, hq18, ht⟩ := it_b ht
            refine q_rl (va_runS (As := [.long ((p0 - 1).toInt64), .int 2]) (rest := [.long 1]) ⟨hx, hb, hml, hown, hts⟩ (kX9_power l D cI cZ cO ((p0 - 1).toInt64) 2 q18 hq18) (va_cwS 2 hts gX9_thought_X9_power rfl rfl rfl (by decide +kernel) ⟨Nat.le_of_ble_eq_true rfl, Nat.le_of_ble_eq_true rfl⟩) (q_rS hE q_nil) rfl rfl hl.1 rfl (lv_room (Nat.le_of_ble_eq_true rfl)) dX9_thought_69 ⟨Nat.le_of_ble_eq_true rfl, Nat.le_of_ble_eq_true rfl⟩) ?_
            refine lv_iload hx hb dX9_thought_72 (lv_at hl 5 rfl) ?_
            obtain ⟨q19, hq19, ht⟩ := it_b ht
            refine q_rl (va_runS (As := [.long 1, .long q18, .int p3]) (rest := []) ⟨hx, hb, hml, hown, hts⟩ (kX9_lowest l D cI cZ cO 1 q18 p3 q19 hq19) (va_cwS 3 hts gX9_thought_X9_lowest rfl rfl rfl (by decide +kernel) ⟨Nat.le_of_ble_eq_true rfl, Nat.le_of_ble_eq_true rfl⟩) (q_rS hE q_nil) rfl rfl hl.1 rfl (lv_room (Nat.le_of_ble_eq_true rfl)) dX9_thought_74 ⟨Nat.le_of_ble_eq_true rfl, Nat.le_of_ble_eq_true rfl⟩) ?_
            have ht := Option.some.inj ht
            exact W.lret (v := q19) hx hb hr (fun t e1 hW => ⟨_, rfl, ht, e1⟩) (fun q h => absurd h List.not_mem_nil) dX9_thought_77
        · have ht := it_p c8 ht
          refine lv_ldc2 hx hb hown hw2 dX9_thought_50 ?_
          have ht := Option.some.inj ht
          exact W.lret (v := (-1000000000000000002)) hx hb hr (fun t e1 hW => ⟨_, rfl, ht, e1⟩) (fun q h => absurd h List.not_mem_nil) dX9_thought_53
abbrev rmX9_drawn : Room := { frames := 4, cells := 0, slots := 0, locals := 90 }
set_option maxHeartbeats 4000000 in
set_option maxRecDepth 100000 in
theorem kX9_drawn (l : Launch) (D : va_G) (cI cZ cO : ClassId) (d0 : Nat → Nat) (sz : Nat) (S0 : St) (p0 : Int32) (p1 : Int32) (tg : St) (ht : xX9_drawn p0 p1 S0 = some tg) : Met l yX9_drawn wsX9_drawn rmX9_drawn (q_PM D cI cZ cO [.ref (d0 0), .int p0, .int p1] sz (wg9 cI cZ d0 S0)) (va_Qv (fun _ : Unit => True) (fun _ t => va_P D vwCl (wg9 cI cZ d0 tg) t.heap) (va_A (wg9 cI cZ d0 S0) sz)) 0 0 (va_A (wg9 cI cZ d0 S0) sz) := by
  refine Met.ofW (cc := cX9_drawn) (maxL := 6) (ret := none) (by decide) rfl ?_
  intro p e s m args below meth c s₁ B hml hv
  obtain ⟨rfl, hsz, hE, hP, hD0⟩ := hv
  have hx := B.exec
  have hb := B.bytes
  have hr := B.returns
  have hts := atoms_spec (ws := wsX9_drawn) B.pre
  have hown : s.vm.findClass RX9 = some m.cls := findClass_of_methodNamed B.named
  have hlocks := B.notSynchronized
  subst hsz
  have hD1 := hD0.self (sz := s.heap.size)
  generalize hAe : va_A (wg9 cI cZ d0 S0) s.heap.size = A at hD1 ⊢
  have hA : ∀ q : Nat, s.heap.size ≤ q → A q := fun q h => by rw [← hAe]; exact Or.inr h
  have hS : va_S A s.heap s.heap [] := va_S.rf
  have hD : ∀ (S0 : St), va_D A (wg9 cI cZ d0 S0) := fun S0 => q_D hD1 rfl
  have hl := lv_entry ([.ref (d0 0), .int p0, .int p1]) (n := 6) (Nat.le_of_ble_eq_true rfl)
  rw [lg_entry_eq]
  generalize (lg_sl ([.ref (d0 0), .int p0, .int p1]) ++ List.replicate (6 - (lg_sl ([.ref (d0 0), .int p0, .int p1])).length) Slot.unset).toArray = ls at hl ⊢
  have hl : lv_has ls 6 [(0, .ref (d0 0)), (1, .int p0), (2, .int p1)] := hl
  have ht := (xX9_drawn_s p0 p1 S0).symm.trans ht
  obtain ⟨Q, hQ⟩ : ∃ Q, Q = MQ below (va_Qv (fun _ : Unit => True) (fun _ t => va_P D vwCl (wg9 cI cZ d0 tg) t.heap) A) ([.ref (d0 0), .int p0, .int p1] : List Value).toArray s 0 0 A := ⟨_, rfl⟩
  rw [← hQ]
  have J49 : ∀ (z0 : Int32) (S0 : St) (H : Heap) (locs : List Loc) (_ : va_P D vwCl (wg9 cI cZ d0 S0) H) (_ : va_S A s.heap H locs) (ls : Array Slot) (_ : lv_has ls 6 [(0, .ref (d0 0)), (1, .int p0), (2, .int p1)]) (_ : xX9_drawn_h49 p0 p1 z0 S0 = some tg), W p l e (headSpec wsX9_drawn rmX9_drawn).room s m ([.ref (d0 0), .int p0, .int p1] : List Value).toArray below meth c H locs 0 0 Q (F0 m 49 ls [.int z0]) := by
    intro z0 S0 H locs hP hS ls hl ht
    have ht := (xX9_drawn_h49_s p0 p1 z0 S0).symm.trans ht
    have J65 : ∀ (x3 : Int32) (z0 : Int32) (S0 : St) (H : Heap) (locs : List Loc) (_ : va_P D vwCl (wg9 cI cZ d0 S0) H) (_ : va_S A s.heap H locs) (ls : Array Slot) (_ : lv_has ls 6 [(0, .ref (d0 0)), (1, .int p0), (2, .int p1), (3, .int x3)]) (_ : xX9_drawn_h65 p0 p1 x3 z0 S0 = some tg), W p l e (headSpec wsX9_drawn rmX9_drawn).room s m ([.ref (d0 0), .int p0, .int p1] : List Value).toArray below meth c H locs 0 0 Q (F0 m 65 ls [.int z0]) := by
      intro x3 z0 S0 H locs hP hS ls hl ht
      have ht := (xX9_drawn_h65_s p0 p1 x3 z0 S0).symm.trans ht
      have J103 : ∀ (x3 : Int32) (x4 : Int32) (z0 : Int32) (S0 : St) (H : Heap) (locs : List Loc) (_ : va_P D vwCl (wg9 cI cZ d0 S0) H) (_ : va_S A s.heap H locs) (ls : Array Slot) (_ : lv_has ls 6 [(0, .ref (d0 0)), (3, .int x3), (4, .int x4)]) (_ : xX9_drawn_h103 p0 p1 x3 x4 z0 S0 = some tg), W p l e (headSpec wsX9_drawn rmX9_drawn).room s m ([.ref (d0 0), .int p0, .int p1] : List Value).toArray below meth c H locs 0 0 Q (F0 m 103 ls [.int z0]) := by
        intro x3 x4 z0 S0 H locs hP hS ls hl ht
        have ht := (xX9_drawn_h103_s p0 p1 x3 x4 z0 S0).symm.trans ht
        refine lv_istore (lv' := [(5, .int z0), (0, .ref (d0 0)), (3, .int x3), (4, .int x4)]) hx hb dX9_drawn_103 hl (by decide) rfl (fun ls hl => ?_)
        refine lv_aload_n hx hb dX9_drawn_105 rfl (lv_at hl 1 rfl) ?_
        refine lv_iload_n hx hb dX9_drawn_106 rfl (lv_at hl 2 rfl) ?_
        refine lv_iload hx hb dX9_drawn_107 (lv_at hl 3 rfl) ?_
        refine lv_iload hx hb dX9_drawn_109 (lv_at hl 0 rfl) ?_
        obtain ⟨q9, hq9, ht⟩ := it_b ht
        refine q_ri (va_runV (As := [.int x3, .int x4, .int z0]) (rest := []) ⟨hx, hb, hml, hown, hts⟩ (kX9_whyNot l D cI cZ cO d0 S0 x3 x4 z0 q9 hq9) (cwV 3 hts gX9_drawn_X9_whyNot rfl rfl rfl (by decide +kernel) ⟨Nat.le_of_ble_eq_true rfl, Nat.le_of_ble_eq_true rfl⟩) (q_rV (As := [.int x3, .int x4, .int z0]) hE hP (q0 := 0) (ci := 9) rfl rfl) rfl rfl hl.1 rfl (lv_room (Nat.le_of_ble_eq_true rfl)) dX9_drawn_111 ⟨Nat.le_of_ble_eq_true rfl, Nat.le_of_ble_eq_true rfl⟩) (fun b10 => ?_)
        refine lv_if_ne (tgt := 126) hx hb dX9_drawn_114 (by decide) (fun c11 => ?_) (fun c11 => ?_)
        · have ht := it_n c11 ht
          subst hQ
          obtain rfl := Option.some.inj ht
          exact W.vret hx hb hr (fun t e1 hW => ⟨⟨(), rfl, trivial, q_at e1 hP⟩, hS.F e1⟩) hS.2.2 dX9_drawn_126
        · have ht := it_p c11 ht
          refine lv_aload_n hx hb dX9_drawn_117 rfl (lv_at hl 1 rfl) ?_
          refine lv_iload_n hx hb dX9_drawn_118 rfl (lv_at hl 2 rfl) ?_
          refine lv_iload hx hb dX9_drawn_119 (lv_at hl 3 rfl) ?_
          refine lv_iload hx hb dX9_drawn_121 (lv_at hl 0 rfl) ?_
          obtain ⟨q12, hq12, ht⟩ := it_b ht
          have hFc := q_freeW (hD S0) hS hA
          refine q_mv (va_runV (As := [.int x3, .int x4, .int z0]) (rest := []) ⟨hx, hb, hml, hown, hts⟩ (kX9_happen l D cI cZ cO d0 H.size S0 x3 x4 z0 q12 hq12) (cwV 3 hts gX9_drawn_X9_happen rfl rfl rfl (by decide +kernel) ⟨Nat.le_of_ble_eq_true rfl, Nat.le_of_ble_eq_true rfl⟩) (q_mV (As := [.int x3, .int x4, .int z0]) hE hP (hD S0) (q0 := 0) (ci := 9) rfl rfl) rfl rfl hl.1 rfl (lv_room (Nat.le_of_ble_eq_true rfl)) dX9_drawn_123 ⟨Nat.le_of_ble_eq_true rfl, Nat.le_of_ble_eq_true rfl⟩) hS hFc (fun H locs hP1 hk hS => ?_)
          have hP : va_P D vwCl (wg9 cI cZ d0 q12) H := hP1
          subst hQ
          obtain rfl := Option.some.inj ht
          exact W.vret hx hb hr (fun t e1 hW => ⟨⟨(), rfl, trivial, q_at e1 hP⟩, hS.F e1⟩) hS.2.2 dX9_drawn_126
      refine lv_istore (lv' := [(4, .int z0), (0, .ref (d0 0)), (1, .int p0), (2, .int p1), (3, .int x3)]) hx hb dX9_drawn_65 hl (by decide) rfl (fun ls hl => ?_)
      refine lv_iload_n hx hb dX9_drawn_67 rfl (lv_at hl 2 rfl) ?_
      refine lv_iconst (v := 2) hx hb dX9_drawn_68 (by decide) ?_
      refine lv_icmp_ge (tgt := 82) hx hb dX9_drawn_69 (by decide) (fun c7 => ?_) (fun c7 => ?_)
      · have ht := it_p c7 ht
        refine lv_iload_n hx hb dX9_drawn_82 rfl (lv_at hl 2 rfl) ?_
        refine lv_iconst (v := 2) hx hb dX9_drawn_83 (by decide) ?_
        refine lv_icmp_ne (tgt := 97) hx hb dX9_drawn_84 (by decide) (fun c8 => ?_) (fun c8 => ?_)
        · have ht := it_n c8 ht
          refine lv_iload_n hx hb dX9_drawn_97 rfl (lv_at hl 3 rfl) ?_
          refine lv_iconst (v := 4) hx hb dX9_drawn_98 (by decide) ?_
          refine lv_idiv hx hb dX9_drawn_99 (by decide +kernel) ?_
          refine lv_bipush (v := 8) hx hb dX9_drawn_100 (by decide) ?_
          refine q_irem hx hb dX9_drawn_102 (by decide +kernel) ?_
          exact J103 x3 z0 (q_rem (p1 / 4) 8) S0 _ _ hP hS ls (lv_sub hl [1, 4, 0] rfl) ht
        · have ht := it_p c8 ht
          refine lv_iload_n hx hb dX9_drawn_87 rfl (lv_at hl 3 rfl) ?_
          refine lv_bipush (v := 8) hx hb dX9_drawn_88 (by decide) ?_
          refine lv_idiv hx hb dX9_drawn_90 (by decide +kernel) ?_
          refine lv_bipush (v := 12) hx hb dX9_drawn_91 (by decide) ?_
          refine q_irem hx hb dX9_drawn_93 (by decide +kernel) ?_
          refine lv_goto (tgt := 103) hx hb dX9_drawn_94 (by decide) ?_
          exact J103 x3 z0 (q_rem (p1 / 8) 12) S0 _ _ hP hS ls (lv_sub hl [1, 4, 0] rfl) ht
      · have ht := it_n c7 ht
        refine lv_iload_n hx hb dX9_drawn_72 rfl (lv_at hl 3 rfl) ?_
        refine lv_bipush (v := 8) hx hb dX9_drawn_73 (by decide) ?_
        refine lv_idiv hx hb dX9_drawn_75 (by decide +kernel) ?_
        refine lv_bipush (v := 8) hx hb dX9_drawn_76 (by decide) ?_
        refine q_irem hx hb dX9_drawn_78 (by decide +kernel) ?_
        refine lv_goto (tgt := 103) hx hb dX9_drawn_79 (by decide) ?_
        exact J103 x3 z0 (q_rem (p1 / 8) 8) S0 _ _ hP hS ls (lv_sub hl [1, 4, 0] rfl) ht
    refine lv_istore_n (lv' := [(3, .int z0), (0, .ref (d0 0)), (1, .int p0), (2, .int p1)]) hx hb dX9_drawn_49 rfl hl (by decide) rfl (fun ls hl => ?_)
    refine lv_iload_n hx hb dX9_drawn_50 rfl (lv_at hl 2 rfl) ?_
    refine lv_iconst (v := 3) hx hb dX9_drawn_51 (by decide) ?_
    refine lv_icmp_ge (tgt := 62) hx hb dX9_drawn_52 (by decide) (fun c6 => ?_) (fun c6 => ?_)
    · have ht := it_p c6 ht
      refine lv_iload_n hx hb dX9_drawn_62 rfl (lv_at hl 3 rfl) ?_
      refine lv_iconst (v := 4) hx hb dX9_drawn_63 (by decide) ?_
      refine q_irem hx hb dX9_drawn_64 (by decide +kernel) ?_
      exact J65 z0 (q_rem p1 4) S0 _ _ hP hS ls (lv_sub hl [1, 2, 3, 0] rfl) ht
    · have ht := it_n c6 ht
      refine lv_iload_n hx hb dX9_drawn_55 rfl (lv_at hl 3 rfl) ?_
      refine lv_bipush (v := 8) hx hb dX9_drawn_56 (by decide) ?_
      refine q_irem hx hb dX9_drawn_58 (by decide +kernel) ?_
      refine lv_goto (tgt := 65) hx hb dX9_drawn_59 (by decide) ?_
      exact J65 z0 (q_rem p1 8) S0 _ _ hP hS ls (lv_sub hl [1, 2, 3, 0] rfl) ht
  refine lv_iload_n hx hb dX9_drawn_0 rfl (lv_at hl 1 rfl) ?_
  refine lv_iconst (v := 2) hx hb dX9_drawn_1 (by decide) ?_
  refine lv_icmp_ge (tgt := 9) hx hb dX9_drawn_2 (by decide) (fun c1 => ?_) (fun c1 => ?_)
  · have ht := it_p c1 ht
    refine lv_iload_n hx hb dX9_drawn_9 rfl (lv_at hl 1 rfl) ?_
    refine lv_iconst (v := 2) hx hb dX9_drawn_10 (by decide) ?_
    refine lv_icmp_ne (tgt := 18) hx hb dX9_drawn_11 (by decide) (fun c2 => ?_) (fun c2 => ?_)
    · have ht := it_n c2 ht
      refine lv_iload_n hx hb dX9_drawn_18 rfl (lv_at hl 1 rfl) ?_
      refine lv_iconst (v := 5) hx hb dX9_drawn_19 (by decide) ?_
      refine lv_icmp_ge (tgt := 39) hx hb dX9_drawn_20 (by decide) (fun c3 => ?_) (fun c3 => ?_)
      · have ht := it_p c3 ht
        refine lv_iload_n hx hb dX9_drawn_39 rfl (lv_at hl 1 rfl) ?_
        refine lv_iconst (v := 5) hx hb dX9_drawn_40 (by decide) ?_
        refine lv_icmp_ne (tgt := 48) hx hb dX9_drawn_41 (by decide) (fun c4 => ?_) (fun c4 => ?_)
        · have ht := it_n c4 ht
          refine lv_iconst (v := 5) hx hb dX9_drawn_48 (by decide) ?_
          exact J49 5 S0 _ _ hP hS ls (lv_sub hl [0, 1, 2] rfl) ht
        · have ht := it_p c4 ht
          refine lv_iconst (v := 4) hx hb dX9_drawn_44 (by decide) ?_
          refine lv_goto (tgt := 49) hx hb dX9_drawn_45 (by decide) ?_
          exact J49 4 S0 _ _ hP hS ls (lv_sub hl [0, 1, 2] rfl) ht
      · have ht := it_n c3 ht
        refine lv_iload_n hx hb dX9_drawn_23 rfl (lv_at hl 2 rfl) ?_
        refine lv_iconst (v := 4) hx hb dX9_drawn_24 (by decide) ?_
        refine lv_idiv hx hb dX9_drawn_25 (by decide +kernel) ?_
        refine lv_iconst (v := 2) hx hb dX9_drawn_26 (by decide) ?_
        refine q_irem hx hb dX9_drawn_27 (by decide +kernel) ?_
        refine lv_if_ne (tgt := 35) hx hb dX9_drawn_28 (by decide) (fun c5 => ?_) (fun c5 => ?_)
        · have ht := it_n c5 ht
          refine lv_iconst (v := 3) hx hb dX9_drawn_35 (by decide) ?_
          refine lv_goto (tgt := 49) hx hb dX9_drawn_36 (by decide) ?_
          exact J49 3 S0 _ _ hP hS ls (lv_sub hl [0, 1, 2] rfl) ht
        · have ht := it_p c5 ht
          refine lv_iconst (v := 2) hx hb dX9_drawn_31 (by decide) ?_
          refine lv_goto (tgt := 49) hx hb dX9_drawn_32 (by decide) ?_
          exact J49 2 S0 _ _ hP hS ls (lv_sub hl [0, 1, 2] rfl) ht
    · have ht := it_p c2 ht
      refine lv_iconst (v := 1) hx hb dX9_drawn_14 (by decide) ?_
      refine lv_goto (tgt := 49) hx hb dX9_drawn_15 (by decide) ?_
      exact J49 1 S0 _ _ hP hS ls (lv_sub hl [0, 1, 2] rfl) ht
  · have ht := it_n c1 ht
    refine lv_iconst (v := 0) hx hb dX9_drawn_5 (by decide) ?_
    refine lv_goto (tgt := 49) hx hb dX9_drawn_6 (by decide) ?_
    exact J49 0 S0 _ _ hP hS ls (lv_sub hl [0, 1, 2] rfl) ht
