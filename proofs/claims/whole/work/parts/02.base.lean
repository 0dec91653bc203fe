/-! the pure side: a state of a group of cells is St (row of its slot, place); Option: what a method answers, none where it would not be safe -/
abbrev St : Type := Nat → Nat → Int32
def q_su (S : St) (r k : Nat) (v : Int32) : St := fun r' => if r' = r then upd (S r) k v else S r'
def q_sr (S : St) (r : Nat) (f : Nat → Int32) : St := fun r' => if r' = r then f else S r'
def q_ib (i : Int32) (n : Nat) : Bool := decide (¬ (i < 0 ∨ n ≤ i.toNatClampNeg))
theorem q_in {i : Int32} {n : Nat} (h : q_ib i n = true) : vp_in i n := by
  unfold vp_in
  exact of_decide_eq_true h
def q_zb (v : Int32) : Bool := decide (v = 0 ∨ v = 1)
theorem q_zn {v : Int32} (h : q_zb v = true) : narrow .boolean (.int v) = .int v := by
  rcases of_decide_eq_true h with rfl | rfl <;> decide +kernel
theorem q_zf {v : Int32} (h : narrow .boolean (.int v) = .int v) : fits .boolean (.int v) = true := by
  rw [← h]
  simp only [fits, narrow]
  obtain ⟨j, hj, e⟩ := pk_andE v (m := 1) 1 (by decide)
  have hj2 : j = 0 ∨ j = 1 := by omega
  rw [e]
  rcases hj2 with rfl | rfl <;> decide +kernel
def q_zrow (f : Nat → Int32) (n : Nat) : Bool := decide (∀ i, i < n → f i = 0 ∨ f i = 1)
theorem q_zr {f : Nat → Int32} {n : Nat} {a : Int32} (h : q_zrow f n = true) (ha : a.toNatClampNeg = n) : ∀ i, i < a.toNatClampNeg → fits .boolean (.int (f ((0 : Int32).toNatClampNeg + i))) = true := by
  intro i hi
  have h0 : (0 : Int32).toNatClampNeg + i = i := by rw [show (0 : Int32).toNatClampNeg = 0 by decide]; omega
  rw [h0]
  rcases (of_decide_eq_true h) i (by omega) with e | e <;> rw [e] <;> decide +kernel
def q_let {α β : Type} (a : α) (f : α → β) : β := f a
theorem it_l {α β : Type} {a : α} {f : α → β} {t : β} (h : q_let a f = t) {y : α} (e : y = a) : f y = t := by rw [e]; exact h
theorem it_p {α : Type} {c : Prop} [Decidable c] {a b t : α} (hc : c) (h : (if c then a else b) = t) : a = t := by rw [if_pos hc] at h; exact h
theorem it_n {α : Type} {c : Prop} [Decidable c] {a b t : α} (hc : ¬ c) (h : (if c then a else b) = t) : b = t := by rw [if_neg hc] at h; exact h
theorem it_g {α : Type} {c : Bool} {a : Option α} {t : α} (h : (if c = true then a else none) = some t) : c = true ∧ a = some t := by
  cases c with
  | true => exact ⟨rfl, by simpa using h⟩
  | false => simp at h
theorem it_d {α : Type} {c : Prop} [Decidable c] {a : Option α} {t : α} (h : (if c then none else a) = some t) : ¬ c ∧ a = some t := by
  by_cases hc : c
  · rw [if_pos hc] at h; cases h
  · rw [if_neg hc] at h; exact ⟨hc, h⟩
theorem it_b {α β : Type} {x : Option α} {f : α → Option β} {t : β} (h : x.bind f = some t) : ∃ a, x = some a ∧ f a = some t := by
  cases x with
  | none => cases h
  | some a => exact ⟨a, rfl, h⟩
theorem it_z {α : Type} {t : α} {C : Prop} (h : (none : Option α) = some t) : C := by cases h
theorem it_tab {x : Int32} {lo hi : Int} (h : x.toInt < lo ∨ hi < x.toInt) : x.toInt < lo ∨ hi < x.toInt := h
def q_NW (U : State) : Prop := va_Nw (.methodLinkNest RX8 18 yX4_init RX8) U ∧ va_Nw (.methodLinkNest RX8 25 yX3_init RX8) U ∧ va_Nw (.methodLinkNest RX3 20 yX0_init RX8) U ∧ va_Nw (.methodLinkNest RX8 32 yX6_init RX8) U ∧ va_Nw (.methodLinkNest RX8 39 yX7_init RX8) U ∧ va_Nw (.methodLinkNest RX8 46 yX2_init RX8) U ∧ va_Nw (.methodLinkNest RX8 57 yX1_init RX8) U ∧ va_Nw (.methodLinkNest RX1 18 yX7_init RX8) U ∧ va_Nw (.methodLinkNest RX4 29 yX8_isPerson RX8) U ∧ va_Nw (.methodLinkNest RX4 42 yX8_isCell RX8) U ∧ va_Nw (.methodLinkNest RX4 36 yX8_isReader RX8) U ∧ va_Nw (.methodLinkNest RX0 21 yX8_isPerson RX8) U ∧ va_Nw (.methodLinkNest RX0 25 yX8_isCell RX8) U ∧ va_Nw (.methodLinkNest RX0 28 yX8_isReader RX8) U ∧ va_Nw (.methodLinkNest RX5 94 yX8_isCell RX8) U ∧ va_AO RX1 U
theorem q_NW.warm {s U : State} (hW : s.WarmedH U.vm) (h : q_NW s) : q_NW U := by
  obtain ⟨a, b, c, d, e, f, g, i, j, k, m, n, o, q, r, z⟩ := h
  exact ⟨a.warmM hW, b.warmM hW, c.warmM hW, d.warmM hW, e.warmM hW, f.warmM hW, g.warmM hW, i.warmM hW, j.warmM hW, k.warmM hW, m.warmM hW, n.warmM hW, o.warmM hW, q.warmM hW, r.warmM hW, z.moved hW.alike⟩
theorem q_NW.same {s U : State} (hv : s.vm = U.vm) (h : q_NW s) : q_NW U := by
  obtain ⟨a, b, c, d, e, f, g, i, j, k, m, n, o, q, r, z⟩ := h
  exact ⟨a.same rfl hv, b.same rfl hv, c.same rfl hv, d.same rfl hv, e.same rfl hv, f.same rfl hv, g.same rfl hv, i.same rfl hv, j.same rfl hv, k.same rfl hv, m.same rfl hv, n.same rfl hv, o.same rfl hv, q.same rfl hv, r.same rfl hv, z.moved (by rw [hv]; exact Vm.Alike.refl _)⟩
def q_E (D : va_G) (cI cZ cO : ClassId) (U : State) : Prop := va_K D vwCl [(cI, .int), (cZ, .boolean), (cO, .object RX1)] U ∧ q_NW U
theorem q_E.warm {D : va_G} {cI cZ cO : ClassId} {s U : State} (hW : s.WarmedH U.vm) (h : q_E D cI cZ cO s) : q_E D cI cZ cO U := ⟨va_K.moved hW.alike h.1, h.2.warm hW⟩
theorem q_E.call {D : va_G} {cI cZ cO : ClassId} {U : State} (g : JFrame) (mk : MethodId) (a : Array Value) (h : q_E D cI cZ cO U) : q_E D cI cZ cO (U.calling g mk a) := ⟨va_K.moved (u := U) (U := U.calling g mk a) (Vm.Alike.refl U.vm) h.1, h.2.same rfl⟩
/-- the start of a contract that reads, of one that writes -/
def q_PR (D : va_G) (cI cZ cO : ClassId) (av : List Value) (ws : va_W) : Array Value → State → Prop := fun v U => v = av.toArray ∧ q_E D cI cZ cO U ∧ va_P D vwCl ws U.heap
def q_PM (D : va_G) (cI cZ cO : ClassId) (av : List Value) (sz : Nat) (ws : va_W) : Array Value → State → Prop := fun v U => v = av.toArray ∧ U.heap.size = sz ∧ q_E D cI cZ cO U ∧ va_P D vwCl ws U.heap ∧ va_D (fun _ => True) ws
theorem q_PR.blind {D : va_G} {cI cZ cO : ClassId} {av : List Value} {ws : va_W} : FrameBlind (q_PR D cI cZ cO av ws) := fun a U g mk h => ⟨h.1, h.2.1.call g mk a, h.2.2⟩
theorem q_PM.blind {D : va_G} {cI cZ cO : ClassId} {av : List Value} {sz : Nat} {ws : va_W} : FrameBlind (q_PM D cI cZ cO av sz ws) := fun a U g mk h => ⟨h.1, h.2.1, h.2.2.1.call g mk a, h.2.2.2⟩
theorem q_rS {D : va_G} {cI cZ cO : ClassId} {As : List Value} {ws : va_W} {s : State} {H : Heap} (hE : q_E D cI cZ cO s) (hP : va_P D vwCl ws H) : PreS s H (q_PR D cI cZ cO As ws) As := ⟨q_PR.blind, fun U hU hW => ⟨rfl, hE.warm hW, by rw [hU]; exact hP⟩⟩
theorem q_rV {D : va_G} {cI cZ cO : ClassId} {As : List Value} {ws : va_W} {s : State} {H : Heap} (hE : q_E D cI cZ cO s) (hP : va_P D vwCl ws H) {b q0 ci : Nat} {r : vw_C} {fs : List Value} (hc : vwCl[ci]? = some r) (he : ws[q0]? = some (b, .inr (ci, fs))) : PreV s H r.1 b (q_PR D cI cZ cO (.ref b :: As) ws) As := ⟨q_PR.blind, va_recv hE.1 hP hc he, fun U hU hW => ⟨rfl, hE.warm hW, by rw [hU]; exact hP⟩⟩
theorem q_mS {D : va_G} {cI cZ cO : ClassId} {As : List Value} {ws : va_W} {s : State} {H : Heap} {A : Nat → Prop} (hE : q_E D cI cZ cO s) (hP : va_P D vwCl ws H) (hD : va_D A ws) : PreS s H (q_PM D cI cZ cO As H.size ws) As := ⟨q_PM.blind, fun U hU hW => ⟨rfl, by rw [hU], hE.warm hW, by rw [hU]; exact hP, hD.weaken (fun _ _ _ _ => trivial)⟩⟩
theorem q_mV {D : va_G} {cI cZ cO : ClassId} {As : List Value} {ws : va_W} {s : State} {H : Heap} {A : Nat → Prop} (hE : q_E D cI cZ cO s) (hP : va_P D vwCl ws H) (hD : va_D A ws) {b q0 ci : Nat} {r : vw_C} {fs : List Value} (hc : vwCl[ci]? = some r) (he : ws[q0]? = some (b, .inr (ci, fs))) : PreV s H r.1 b (q_PM D cI cZ cO (.ref b :: As) H.size ws) As := ⟨q_PM.blind, va_recv hE.1 hP hc he, fun U hU hW => ⟨rfl, by rw [hU], hE.warm hW, by rw [hU]; exact hP, hD.weaken (fun _ _ _ _ => trivial)⟩⟩
/-- apart is a matter of addresses alone -/
theorem q_D {A : Nat → Prop} {ws ws' : va_W} (h : va_D A ws) (he : ws.map Prod.fst = ws'.map Prod.fst) : va_D A ws' := by
  have hg : ∀ (k : Nat) (q : Nat × va_E), ws'[k]? = some q → ∃ q2 : Nat × va_E, ws[k]? = some q2 ∧ q2.1 = q.1 := by
    intro k q hq
    have h1 : (ws'.map Prod.fst)[k]? = some q.1 := by rw [List.getElem?_map, hq]; rfl
    rw [← he, List.getElem?_map] at h1
    cases hk : ws[k]? with
    | none => rw [hk] at h1; cases h1
    | some q2 => rw [hk] at h1; exact ⟨q2, rfl, Option.some.inj h1⟩
  refine ⟨fun i j p q hp hq e => ?_, fun k q hq => ?_⟩
  · obtain ⟨p2, a1, a2⟩ := hg i p hp
    obtain ⟨q2, b1, b2⟩ := hg j q hq
    exact h.1 i j p2 q2 a1 b1 (by rw [a2, b2, e])
  · obtain ⟨q2, a1, a2⟩ := hg k q hq
    rw [← a2]
    exact h.2 k q2 a1
theorem q_at {D : va_G} {ws : va_W} {t : State} {H : Heap} (e1 : t.heap = H) (hP : va_P D vwCl ws H) : va_P D vwCl ws t.heap := by rw [e1]; exact hP
theorem q_nil {D : va_G} {H : Heap} : va_P D vwCl [] H := fun k q h => by simp at h
section QC
variable {p : Program} {l : Launch} {e : Env} {R : Room} {s : State} {m : MethodId} {args : Array Value} {below : List Frame} {meth : Method} {c : Code} {H : Heap} {locs : List Loc} {cells slots : Nat} {Q : State → Prop}
variable {pc : Nat} {ls : Array Slot} {rest st0 : List Value} {a : Array Value} {A0 : Nat → Prop} {H0 : Heap} {D : va_G} {wc wc' : va_W}
theorem q_ri {r : Int32} {N : Int32 → Prop} (hr : va_Run p l e R s m args below meth c H locs cells slots 0 0 (F0 m pc ls st0) rest (vp_Si (fun x => x = r ∧ N x) a) (fun _ => False))
    (kk : N r → W p l e R s m args below meth c H locs cells slots Q (F0 m (pc + 3) ls (.int r :: rest))) : W p l e R s m args below meth c H locs cells slots Q (F0 m pc ls st0) := by
  intro T hT X
  obtain ⟨v, st₀, t, T', L, h0, X', hL, e1, e2, ⟨x, hv, ⟨rfl, hn⟩, hh⟩, st⟩ := hr T hT X
  cases hv
  obtain ⟨t2, a1, b1⟩ := kk hn T' (by rw [e1, hh, h0]) (Stand.forget X' (fun q h => (hL q h).elim))
  exact ⟨t2, st t2 a1, b1⟩
theorem q_rl {r : Int64} (hr : va_Run p l e R s m args below meth c H locs cells slots 0 0 (F0 m pc ls st0) rest (vp_Sl (fun x => x = r) a) (fun _ => False))
    (kk : W p l e R s m args below meth c H locs cells slots Q (F0 m (pc + 3) ls (.long r :: rest))) : W p l e R s m args below meth c H locs cells slots Q (F0 m pc ls st0) := by
  intro T hT X
  obtain ⟨v, st₀, t, T', L, h0, X', hL, e1, e2, ⟨x, hv, rfl, hh⟩, st⟩ := hr T hT X
  cases hv
  obtain ⟨t2, a1, b1⟩ := kk T' (by rw [e1, hh, h0]) (Stand.forget X' (fun q h => (hL q h).elim))
  exact ⟨t2, st t2 a1, b1⟩
theorem q_mi {r : Int32} {N : Int32 → Prop} (hr : va_Run p l e R s m args below meth c H locs cells slots 0 0 (F0 m pc ls st0) rest (va_Qi (fun x (_ : Unit) => x = r ∧ N x) (fun _ t => va_P D vwCl wc' t.heap) (va_A wc H.size) a) (va_A wc H.size)) (hS : va_S A0 H0 H locs) (hF : ∀ q, va_A wc H.size q → A0 q)
    (kk : ∀ (H1 : Heap) (locs1 : List Loc), N r → va_P D vwCl wc' H1 → (∀ q : Nat, q < H.size → ¬ va_A wc H.size q → H1[q]? = H[q]?) → va_S A0 H0 H1 locs1 → W p l e R s m args below meth c H1 locs1 cells slots Q (F0 m (pc + 3) ls (.int r :: rest))) : W p l e R s m args below meth c H locs cells slots Q (F0 m pc ls st0) := by
  refine va_calli hr hS (fun q _ h => hF q h) hF (fun x u t H1 locs1 ht hvm hw hB hz hk hS1 => ?_)
  obtain ⟨rfl, hn⟩ := hw
  rw [ht] at hB
  exact kk H1 locs1 hn hB hk hS1
theorem q_mv (hr : va_Run p l e R s m args below meth c H locs cells slots 0 0 (F0 m pc ls st0) rest (va_Qv (fun _ : Unit => True) (fun _ t => va_P D vwCl wc' t.heap) (va_A wc H.size) a) (va_A wc H.size)) (hS : va_S A0 H0 H locs) (hF : ∀ q, va_A wc H.size q → A0 q)
    (kk : ∀ (H1 : Heap) (locs1 : List Loc), va_P D vwCl wc' H1 → (∀ q : Nat, q < H.size → ¬ va_A wc H.size q → H1[q]? = H[q]?) → va_S A0 H0 H1 locs1 → W p l e R s m args below meth c H1 locs1 cells slots Q (F0 m (pc + 3) ls rest)) : W p l e R s m args below meth c H locs cells slots Q (F0 m pc ls st0) := by
  refine va_callv hr hS (fun q _ h => hF q h) hF (fun u t H1 locs1 ht hvm hw hB hz hk hS1 => ?_)
  rw [ht] at hB
  exact kk H1 locs1 hB hk hS1
end QC
theorem q_join {A0 : Nat → Prop} {D : va_G} {ws wc wr w1 : va_W} {H H1 : Heap} (hP : va_P D vwCl ws H) (hD : va_D A0 ws) (isC isR : List Nat) (hC : isC.map (fun i => ws[i]?) = wc.map some) (hR : isR.map (fun i => ws[i]?) = wr.map some) (hn : va_nd isR = true) (hdis : ∀ i ∈ isR, i ∉ isC)
    (hk : ∀ q : Nat, q < H.size → ¬ va_A wc H.size q → H1[q]? = H[q]?) (hF : ∀ q, va_A wc H.size q → A0 q) (hP1 : va_P D vwCl w1 H1) (hD1 : va_D A0 wc) (he : wc.map Prod.fst = w1.map Prod.fst) : va_P D vwCl (wr ++ w1) H1 :=
  (va_join hP hD isC isR hC hR hn hdis hk hF hP1 (q_D (hD1.self (sz := H.size)) he)).1
theorem q_freeW {A : Nat → Prop} {ws : va_W} {H0 H : Heap} {locs : List Loc} (hD : va_D A ws) (hS : va_S A H0 H locs) (hA : ∀ q, H0.size ≤ q → A q) : ∀ q, va_A ws H.size q → A q := by
  intro q h
  rcases h with ⟨k, e, hk⟩ | h
  · exact hD.2 k _ hk
  · exact hA q (Nat.le_trans hS.1 h)
def q_rem (x y : Int32) : Int32 := x - x / y * y
def q_reml (x y : Int64) : Int64 := x - x / y * y
def q_shl (x y : Int32) : Int32 := x <<< (y &&& 31)
def q_shr (x y : Int32) : Int32 := x >>> (y &&& 31)
def q_ushr (x y : Int32) : Int32 := (x.toUInt32 >>> (y.toUInt32 &&& Int32.toUInt32 31)).toInt32
def q_mx (x y : Int32) : Int32 := if x < y then y else x
def q_mn (x y : Int32) : Int32 := if y < x then y else x
def q_ab (x : Int32) : Int32 := if 0 ≤ x then x else 0 - x
def q_mxl (x y : Int64) : Int64 := if y < x then x else y
section QR
variable {p : Program} {l : Launch} {e : Env} {R : Room} {s : State} {m : MethodId} {args : Array Value} {below : List Frame} {meth : Method} {c : Code} {H : Heap} {locs : List Loc} {cells slots : Nat} {Q : State → Prop}
variable {cc : ByteArray} {pc : Nat} {ls : Array Slot} {rest : List Value}
theorem q_irem (hexec : p.tables.exec = Jvm.exec) (hb : c.code = cc) {x y : Int32} (hdg : decode cc pc = .ok (.irem, 1)) (hne : ¬ y = 0) (k : W p l e R s m args below meth c H locs cells slots Q (F0 m (pc + 1) ls (.int (q_rem x y) :: rest))) : W p l e R s m args below meth c H locs cells slots Q (F0 m pc ls (.int y :: .int x :: rest)) := lv_irem hexec hb hdg hne k
theorem q_lrem (hexec : p.tables.exec = Jvm.exec) (hb : c.code = cc) {x y : Int64} (hdg : decode cc pc = .ok (.lrem, 1)) (hne : ¬ y = 0) (k : W p l e R s m args below meth c H locs cells slots Q (F0 m (pc + 1) ls (.long (q_reml x y) :: rest))) : W p l e R s m args below meth c H locs cells slots Q (F0 m pc ls (.long y :: .long x :: rest)) := lv_lrem hexec hb hdg hne k
theorem q_ishl (hexec : p.tables.exec = Jvm.exec) (hb : c.code = cc) {x y : Int32} (hdg : decode cc pc = .ok (.ishl, 1)) (k : W p l e R s m args below meth c H locs cells slots Q (F0 m (pc + 1) ls (.int (q_shl x y) :: rest))) : W p l e R s m args below meth c H locs cells slots Q (F0 m pc ls (.int y :: .int x :: rest)) := lv_ishl hexec hb hdg k
theorem q_ishr (hexec : p.tables.exec = Jvm.exec) (hb : c.code = cc) {x y : Int32} (hdg : decode cc pc = .ok (.ishr, 1)) (k : W p l e R s m args below meth c H locs cells slots Q (F0 m (pc + 1) ls (.int (q_shr x y) :: rest))) : W p l e R s m args below meth c H locs cells slots Q (F0 m pc ls (.int y :: .int x :: rest)) := lv_ishr hexec hb hdg k
theorem q_iushr (hexec : p.tables.exec = Jvm.exec) (hb : c.code = cc) {x y : Int32} (hdg : decode cc pc = .ok (.iushr, 1)) (k : W p l e R s m args below meth c H locs cells slots Q (F0 m (pc + 1) ls (.int (q_ushr x y) :: rest))) : W p l e R s m args below meth c H locs cells slots Q (F0 m pc ls (.int y :: .int x :: rest)) := lv_iushr hexec hb hdg rfl k
theorem q_mmax (hexec : p.tables.exec = Jvm.exec) (hb : c.code = cc) (hml : c.maxLocals = ls.size) {own : String} {index : Nat} (hown : s.vm.findClass own = some m.cls) (hlink : (Cond.methodLink own index Lib.Math.max.name).before args s = true) (hstat : (Cond.static Lib.Math.max.name).before args s = true) (hini : (Cond.initialized "java/lang/Math").before args s = true) (hcode : (Cond.code Lib.Math.max.name Lib.Math.max.code 2 (some .int)).before args s = true)
    (hframes : 1 ≤ R.frames) (hlocals : (rest.map fun v => v.category).sum + 13 ≤ R.locals) (hc : cells ≤ R.cells) (hs : slots ≤ R.slots) {x y : Int32} (hdg : decode cc pc = .ok (.invokestatic index, 3))
    (kk : W p l e R s m args below meth c H locs cells slots Q (F0 m (pc + 3) ls (.int (q_mx x y) :: rest))) : W p l e R s m args below meth c H locs cells slots Q (F0 m pc ls (.int y :: .int x :: rest)) := va_mmax hexec hb hml hown hlink hstat hini hcode hframes hlocals hc hs hdg kk
theorem q_mmin (hexec : p.tables.exec = Jvm.exec) (hb : c.code = cc) (hml : c.maxLocals = ls.size) {own : String} {index : Nat} (hown : s.vm.findClass own = some m.cls) (hlink : (Cond.methodLink own index Lib.Math.min.name).before args s = true) (hstat : (Cond.static Lib.Math.min.name).before args s = true) (hini : (Cond.initialized "java/lang/Math").before args s = true) (hcode : (Cond.code Lib.Math.min.name Lib.Math.min.code 2 (some .int)).before args s = true)
    (hframes : 1 ≤ R.frames) (hlocals : (rest.map fun v => v.category).sum + 13 ≤ R.locals) (hc : cells ≤ R.cells) (hs : slots ≤ R.slots) {x y : Int32} (hdg : decode cc pc = .ok (.invokestatic index, 3))
    (kk : W p l e R s m args below meth c H locs cells slots Q (F0 m (pc + 3) ls (.int (q_mn x y) :: rest))) : W p l e R s m args below meth c H locs cells slots Q (F0 m pc ls (.int y :: .int x :: rest)) := va_mmin hexec hb hml hown hlink hstat hini hcode hframes hlocals hc hs hdg kk
theorem q_mabs (hexec : p.tables.exec = Jvm.exec) (hb : c.code = cc) (hml : c.maxLocals = ls.size) {own : String} {index : Nat} (hown : s.vm.findClass own = some m.cls) (hlink : (Cond.methodLink own index Lib.Math.abs.name).before args s = true) (hstat : (Cond.static Lib.Math.abs.name).before args s = true) (hini : (Cond.initialized "java/lang/Math").before args s = true) (hcode : (Cond.code Lib.Math.abs.name Lib.Math.abs.code 1 (some .int)).before args s = true)
    (hframes : 1 ≤ R.frames) (hlocals : (rest.map fun v => v.category).sum + 13 ≤ R.locals) (hc : cells ≤ R.cells) (hs : slots ≤ R.slots) {x : Int32} (hdg : decode cc pc = .ok (.invokestatic index, 3))
    (kk : W p l e R s m args below meth c H locs cells slots Q (F0 m (pc + 3) ls (.int (q_ab x) :: rest))) : W p l e R s m args below meth c H locs cells slots Q (F0 m pc ls (.int x :: rest)) := va_mabs hexec hb hml hown hlink hstat hini hcode hframes hlocals hc hs hdg kk
theorem q_mmax_long (hexec : p.tables.exec = Jvm.exec) (hb : c.code = cc) (hml : c.maxLocals = ls.size) {own : String} {index : Nat} (hown : s.vm.findClass own = some m.cls) (hlink : (Cond.methodLink own index Lib.MathLoose.max_long.x).before args s = true) (hstat : (Cond.static Lib.MathLoose.max_long.x).before args s = true) (hini : (Cond.initialized "java/lang/Math").before args s = true) (hcode : (Cond.code Lib.MathLoose.max_long.x Lib.MathLoose.max_long.code 4 (some .long)).before args s = true)
    (hframes : 1 ≤ R.frames) (hlocals : (rest.map fun v => v.category).sum + 15 ≤ R.locals) (hc : cells ≤ R.cells) (hs : slots ≤ R.slots) {x y : Int64} (hdg : decode cc pc = .ok (.invokestatic index, 3))
    (kk : W p l e R s m args below meth c H locs cells slots Q (F0 m (pc + 3) ls (.long (q_mxl x y) :: rest))) : W p l e R s m args below meth c H locs cells slots Q (F0 m pc ls (.long y :: .long x :: rest)) := va_mmax_long hexec hb hml hown hlink hstat hini hcode hframes hlocals hc hs hdg kk
end QR
def wg0 (cI cZ : ClassId) (d : Nat → Nat) (S : St) : va_W := [(d 0, .inr (0, [.int (S 0 0), .int (S 1 0), .int (S 2 0)]))]
def wg2 (cI cZ : ClassId) (d : Nat → Nat) (S : St) : va_W := [(d 0, .inr (2, [.ref (d 1), .ref (d 2), .ref (d 3), .int (S 3 0), .int (S 4 0), .int (S 5 0)])), (d 1, .inl (cI, 81, .inl (S 0))), (d 2, .inl (cI, 16, .inl (S 1))), (d 3, .inl (cI, 5, .inl (S 2)))]
def wg4 (cI cZ : ClassId) (d : Nat → Nat) (S : St) : va_W := [(d 0, .inr (4, [.ref (d 1), .int (S 1 0)])), (d 1, .inl (cI, 60, .inl (S 0)))]
def wg5 (cI cZ : ClassId) (d : Nat → Nat) (S : St) : va_W := [(d 0, .inr (5, [.ref (d 1), .ref (d 2), .ref (d 3), .ref (d 4), .ref (d 5), .ref (d 6), .ref (d 7), .ref (d 8), .ref (d 9), .int (S 9 0), .int (S 10 0)])), (d 1, .inl (cI, 8, .inl (S 0))), (d 2, .inl (cI, 8, .inl (S 1))), (d 3, .inl (cI, 8, .inl (S 2))), (d 4, .inl (cI, 8, .inl (S 3))), (d 5, .inl (cI, 8, .inl (S 4))), (d 6, .inl (cI, 4, .inl (S 5))), (d 7, .inl (cI, 4, .inl (S 6))), (d 8, .inl (cI, 4, .inl (S 7))), (d 9, .inl (cZ, 4, .inl (S 8)))]
def wg6 (cI cZ : ClassId) (d : Nat → Nat) (S : St) : va_W := [(d 0, .inr (6, [.ref (d 1)])), (d 1, .inl (cI, 2048, .inl (S 0)))]
def wg7 (cI cZ : ClassId) (d : Nat → Nat) (S : St) : va_W := [(d 0, .inr (7, [.ref (d 1), .ref (d 2), .ref (d 3), .int (S 3 0)])), (d 1, .inl (cI, 8, .inl (S 0))), (d 2, .inl (cI, 8, .inl (S 1))), (d 3, .inl (cI, 8, .inl (S 2)))]
def wg9 (cI cZ : ClassId) (d : Nat → Nat) (S : St) : va_W := [(d 0, .inr (9, [.ref (d 1), .ref (d 2), .ref (d 3), .ref (d 4), .ref (d 5), .ref (d 6), .ref (d 7), .ref (d 8), .ref (d 9), .int (S 9 0), .int (S 10 0), .ref (d 12), .ref (d 13), .ref (d 14), .int (S 14 0), .ref (d 16), .int (S 16 0), .ref (d 18), .ref (d 19), .ref (d 20), .int (S 20 0), .int (S 21 0), .int (S 22 0), .ref (d 24), .int (S 24 0), .int (S 25 0), .int (S 26 0), .int (S 27 0), .int (S 28 0), .int (S 29 0), .ref (d 31), .ref (d 32), .ref (d 33), .ref (d 34), .ref (d 35), .int (S 35 0), .int (S 36 0)])), (d 1, .inl (cI, 8, .inl (S 0))), (d 2, .inl (cI, 8, .inl (S 1))), (d 3, .inl (cI, 8, .inl (S 2))), (d 4, .inl (cI, 8, .inl (S 3))), (d 5, .inl (cI, 8, .inl (S 4))), (d 6, .inl (cI, 4, .inl (S 5))), (d 7, .inl (cI, 4, .inl (S 6))), (d 8, .inl (cI, 4, .inl (S 7))), (d 9, .inl (cI, 4, .inl (S 8))), (d 12, .inl (cI, 8, .inl (S 11))), (d 13, .inl (cI, 8, .inl (S 12))), (d 14, .inl (cI, 8, .inl (S 13))), (d 16, .inl (cI, 60, .inl (S 15))), (d 18, .inl (cI, 60, .inl (S 17))), (d 19, .inl (cI, 60, .inl (S 18))), (d 20, .inl (cI, 60, .inl (S 19))), (d 24, .inl (cI, 58, .inl (S 23))), (d 31, .inl (cI, 2048, .inl (S 30))), (d 32, .inl (cI, 5, .inl (S 31))), (d 33, .inl (cZ, 1000, .inl (S 32))), (d 34, .inl (cI, 180, .inl (S 33))), (d 35, .inl (cZ, 2, .inl (S 34)))]
def wg3 (d d1 d2 : Nat → Nat) (S : St) : va_W := [(d 0, .inr (3, [.ref (d1 0), .ref (d2 0), .int (S 2 0), .int (S 3 0), .int (S 4 0), .int (S 5 0), .int (S 6 0), .int (S 7 0)]))]
def wg1 (d d1 d2 : Nat → Nat) (S : St) : va_W := [(d 0, .inr (1, [.ref (d1 0), .ref (d2 0), .int (S 2 0)]))]
def wg8 (dd : Nat → Nat → Nat) : va_W := [(dd 14 0, .inr (8, [.ref (dd 0 0), .ref (dd 1 0), .ref (dd 2 0), .ref (dd 5 0), .ref (dd 6 0), .ref (dd 7 0), .ref (dd 14 1)]))]
def wgi (cO : ClassId) (dd : Nat → Nat → Nat) : va_W := [(dd 14 1, .inl (cO, 2, .inr (.inr (.inr (.inr (va_up (va_up (fun _ => none) (0 : Int32).toNatClampNeg (some (dd 8 0))) (1 : Int32).toNatClampNeg (some (dd 11 0))))))))]
