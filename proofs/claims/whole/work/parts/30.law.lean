def lx_W (cI cZ cO : ClassId) (dd : Nat → Nat → Nat) (S0 : St) (S1 : St) (S2 : St) (S3 : St) (S4 : St) (S5 : St) (S6 : St) (S7 : St) (S8 : St) (S9 : St) (S10 : St) (S11 : St) (S12 : St) (S13 : St) (S16 : St) : va_W := (wg5 cI cZ (dd 0) S0 ++ (wg4 cI cZ (dd 1) S1 ++ (wg3 (dd 2) (dd 3) (dd 4) S2 ++ (wg5 cI cZ (dd 3) S3 ++ (wg0 cI cZ (dd 4) S4 ++ (wg6 cI cZ (dd 5) S5 ++ (wg7 cI cZ (dd 6) S6 ++ (wg2 cI cZ (dd 7) S7 ++ (wg1 (dd 8) (dd 9) (dd 10) S8 ++ (wg5 cI cZ (dd 9) S9 ++ (wg7 cI cZ (dd 10) S10 ++ (wg1 (dd 11) (dd 12) (dd 13) S11 ++ (wg5 cI cZ (dd 12) S12 ++ (wg7 cI cZ (dd 13) S13 ++ (wg8 dd ++ (wgi cO dd ++ (wg9 cI cZ (dd 16) S16)))))))))))))))))
set_option maxHeartbeats 40000000 in
set_option maxRecDepth 100000 in
theorem law_loop {p : Program} {e : Env} {s : State} {m : MethodId} {below : List Frame} {meth : Method} {c : Code} (l : Launch) {b L : Nat} {xs : Nat → Int32} (C0 : lw_At p s m meth c b L xs) (D : va_G) (cI cZ cO : ClassId) (hE : q_E D cI cZ cO s) (dd : Nat → Nat → Nat) (A : Nat → Prop) (hAe : A = fun q : Nat => s.heap.size ≤ q) (hD : ∀ (S0 : St) (S1 : St) (S2 : St) (S3 : St) (S4 : St) (S5 : St) (S6 : St) (S7 : St) (S8 : St) (S9 : St) (S10 : St) (S11 : St) (S12 : St) (S13 : St) (S16 : St), va_D A (wg5 cI cZ (dd 0) S0 ++ (wg4 cI cZ (dd 1) S1 ++ (wg3 (dd 2) (dd 3) (dd 4) S2 ++ (wg5 cI cZ (dd 3) S3 ++ (wg0 cI cZ (dd 4) S4 ++ (wg6 cI cZ (dd 5) S5 ++ (wg7 cI cZ (dd 6) S6 ++ (wg2 cI cZ (dd 7) S7 ++ (wg1 (dd 8) (dd 9) (dd 10) S8 ++ (wg5 cI cZ (dd 9) S9 ++ (wg7 cI cZ (dd 10) S10 ++ (wg1 (dd 11) (dd 12) (dd 13) S11 ++ (wg5 cI cZ (dd 12) S12 ++ (wg7 cI cZ (dd 13) S13 ++ (wg8 dd ++ (wgi cO dd ++ (wg9 cI cZ (dd 16) S16)))))))))))))))))) : ∀ (n : Nat) (x3 : Int32) (S0 : St) (S1 : St) (S2 : St) (S3 : St) (S4 : St) (S5 : St) (S6 : St) (S7 : St) (S8 : St) (S9 : St) (S10 : St) (S11 : St) (S12 : St) (S13 : St) (S16 : St) (H : Heap) (locs : List Loc) (_ : va_P D vwCl (wg5 cI cZ (dd 0) S0 ++ (wg4 cI cZ (dd 1) S1 ++ (wg3 (dd 2) (dd 3) (dd 4) S2 ++ (wg5 cI cZ (dd 3) S3 ++ (wg0 cI cZ (dd 4) S4 ++ (wg6 cI cZ (dd 5) S5 ++ (wg7 cI cZ (dd 6) S6 ++ (wg2 cI cZ (dd 7) S7 ++ (wg1 (dd 8) (dd 9) (dd 10) S8 ++ (wg5 cI cZ (dd 9) S9 ++ (wg7 cI cZ (dd 10) S10 ++ (wg1 (dd 11) (dd 12) (dd 13) S11 ++ (wg5 cI cZ (dd 12) S12 ++ (wg7 cI cZ (dd 13) S13 ++ (wg8 dd ++ (wgi cO dd ++ (wg9 cI cZ (dd 16) S16))))))))))))))))) H) (_ : va_S A s.heap H locs) (ls : Array Slot) (_ : lv_has ls 4 [(0, .ref b), (1, .ref (dd 14 0)), (2, .ref (dd 16 0)), (3, .int x3)]) (_ : xL_law_h18 xs L n x3 S0 S1 S2 S3 S4 S5 S6 S7 S8 S9 S10 S11 S12 S13 S16 = some 1), W p l e room_1 s m #[Value.ref b] below meth c H locs 600000 7302250 (lw_Z below #[Value.ref b] s) (F0 m 18 ls []) := by
  obtain ⟨hx, hb, hr, hml, hown, hts0, hX, hbl, hlocks, hgv⟩ := id C0
  have hts : ∀ w ∈ wsL_law, w.before #[Value.ref b] s = true := fun w h => hts0 w (wsL_law_in w h)
  have hA : ∀ q : Nat, s.heap.size ≤ q → A q := fun q h => by rw [hAe]; exact h
  have hbA : ¬ A b := by rw [hAe]; exact Nat.not_le.mpr hbl
  intro n
  induction n with
  | zero =>
    intro x3 S0 S1 S2 S3 S4 S5 S6 S7 S8 S9 S10 S11 S12 S13 S16 H locs hP hS ls hl ht
    exact it_z ht
  | succ n18 ih18 =>
    intro x3 S0 S1 S2 S3 S4 S5 S6 S7 S8 S9 S10 S11 S12 S13 S16 H locs hP hS ls hl ht
    have ht := (xL_law_h18_s xs L n18 x3 S0 S1 S2 S3 S4 S5 S6 S7 S8 S9 S10 S11 S12 S13 S16).symm.trans ht
    refine lv_iload_n hx hb dL_law_18 rfl (lv_at hl 3 rfl) ?_
    refine lv_aload_n hx hb dL_law_19 rfl (lv_at hl 0 rfl) ?_
    refine va_slen hx hb hX hbl hbA hS dL_law_20 ?_
    refine lv_iconst (v := 5) hx hb dL_law_21 (by decide) ?_
    refine lv_isub hx hb dL_law_22 ?_
    refine lv_icmp_gt (tgt := 880) hx hb dL_law_23 (by decide) (fun c1 => ?_) (fun c1 => ?_)
    · have ht := it_p c1 ht
      refine lv_iconst (v := 1) hx hb dL_law_880 (by decide) ?_
      refine va_forget (fun q h => by have h2 := hS.2.2 q h; rw [hAe] at h2; exact h2) ?_
      exact lw_ret hx hb hr hlocks dL_law_881
    · have ht := it_n c1 ht
      refine lv_aload_n hx hb dL_law_26 rfl (lv_at hl 0 rfl) ?_
      refine lv_iload_n hx hb dL_law_27 rfl (lv_at hl 3 rfl) ?_
      obtain ⟨g2, ht⟩ := it_g ht
      refine va_sld hx hb hX hbl hbA hS (q_in g2) dL_law_28 ?_
      refine lv_bipush (v := 31) hx hb dL_law_29 (by decide) ?_
      refine lv_iand hx hb dL_law_31 ?_
      by_cases c3 : (xs x3.toNatClampNeg) &&& 31 = 0
      · have ht := it_p c3 ht
        refine lv_tableIn (tgt := 148) hx hb dL_law_32 (by rw [c3]; decide) (by rw [c3]; decide) (by rw [c3]; rfl) (by decide) ?_
        refine lv_aload_n hx hb dL_law_148 rfl (lv_at hl 1 rfl) ?_
        refine lv_aload_n hx hb dL_law_149 rfl (lv_at hl 0 rfl) ?_
        refine lv_iload_n hx hb dL_law_150 rfl (lv_at hl 3 rfl) ?_
        refine lv_iconst (v := 1) hx hb dL_law_151 (by decide) ?_
        refine lv_iadd hx hb dL_law_152 ?_
        obtain ⟨g4, ht⟩ := it_g ht
        refine va_sld hx hb hX hbl hbA hS (q_in g4) dL_law_153 ?_
        refine lv_aload_n hx hb dL_law_154 rfl (lv_at hl 0 rfl) ?_
        refine lv_iload_n hx hb dL_law_155 rfl (lv_at hl 3 rfl) ?_
        refine lv_iconst (v := 2) hx hb dL_law_156 (by decide) ?_
        refine lv_iadd hx hb dL_law_157 ?_
        obtain ⟨g5, ht⟩ := it_g ht
        refine va_sld hx hb hX hbl hbA hS (q_in g5) dL_law_158 ?_
        refine lv_aload_n hx hb dL_law_159 rfl (lv_at hl 0 rfl) ?_
        refine lv_iload_n hx hb dL_law_160 rfl (lv_at hl 3 rfl) ?_
        refine lv_iconst (v := 3) hx hb dL_law_161 (by decide) ?_
        refine lv_iadd hx hb dL_law_162 ?_
        obtain ⟨g6, ht⟩ := it_g ht
        refine va_sld hx hb hX hbl hbA hS (q_in g6) dL_law_163 ?_
        obtain ⟨q7, hq7, ht⟩ := it_b ht
        have hPc : va_P D vwCl (wg5 cI cZ (dd 0) S0 ++ (wg8 dd)) H := hP.sub [0, 1, 2, 3, 4, 5, 6, 7, 8, 9, 64] rfl
        have hDc : va_D A (wg5 cI cZ (dd 0) S0 ++ (wg8 dd)) := ((hD S0 S1 S2 S3 S4 S5 S6 S7 S8 S9 S10 S11 S12 S13 S16)).sub [0, 1, 2, 3, 4, 5, 6, 7, 8, 9, 64] (by decide) rfl
        have hFc := va_free (wc := (wg5 cI cZ (dd 0) S0 ++ (wg8 dd))) (hD S0 S1 S2 S3 S4 S5 S6 S7 S8 S9 S10 S11 S12 S13 S16) hS hA [0, 1, 2, 3, 4, 5, 6, 7, 8, 9, 64] rfl
        refine q_mi (va_runV (As := [.int (xs (x3 + 1).toNatClampNeg), .int (xs (x3 + 2).toNatClampNeg), .int (xs (x3 + 3).toNatClampNeg)]) (rest := []) ⟨hx, hb, hml, hown, hts⟩ (kX8_person l D cI cZ cO dd H.size S0 (xs (x3 + 1).toNatClampNeg) (xs (x3 + 2).toNatClampNeg) (xs (x3 + 3).toNatClampNeg) q7 hq7) (cwV 3 hts gL_law_X8_person rfl rfl rfl (by decide +kernel) ⟨Nat.le_of_ble_eq_true rfl, Nat.le_of_ble_eq_true rfl⟩) (q_mV (As := [.int (xs (x3 + 1).toNatClampNeg), .int (xs (x3 + 2).toNatClampNeg), .int (xs (x3 + 3).toNatClampNeg)]) hE hPc hDc (q0 := 10) (ci := 8) rfl rfl) rfl rfl hl.1 rfl (lv_room (Nat.le_of_ble_eq_true rfl)) dL_law_164 ⟨Nat.le_of_ble_eq_true rfl, Nat.le_of_ble_eq_true rfl⟩) hS hFc (fun H locs b8 hP1 hk hS => ?_)
        have hP : va_P D vwCl (wg5 cI cZ (dd 0) q7.2 ++ (wg4 cI cZ (dd 1) S1 ++ (wg3 (dd 2) (dd 3) (dd 4) S2 ++ (wg5 cI cZ (dd 3) S3 ++ (wg0 cI cZ (dd 4) S4 ++ (wg6 cI cZ (dd 5) S5 ++ (wg7 cI cZ (dd 6) S6 ++ (wg2 cI cZ (dd 7) S7 ++ (wg1 (dd 8) (dd 9) (dd 10) S8 ++ (wg5 cI cZ (dd 9) S9 ++ (wg7 cI cZ (dd 10) S10 ++ (wg1 (dd 11) (dd 12) (dd 13) S11 ++ (wg5 cI cZ (dd 12) S12 ++ (wg7 cI cZ (dd 13) S13 ++ (wg8 dd ++ (wgi cO dd ++ (wg9 cI cZ (dd 16) S16))))))))))))))))) H := (q_join (wr := (wg4 cI cZ (dd 1) S1 ++ (wg3 (dd 2) (dd 3) (dd 4) S2 ++ (wg5 cI cZ (dd 3) S3 ++ (wg0 cI cZ (dd 4) S4 ++ (wg6 cI cZ (dd 5) S5 ++ (wg7 cI cZ (dd 6) S6 ++ (wg2 cI cZ (dd 7) S7 ++ (wg1 (dd 8) (dd 9) (dd 10) S8 ++ (wg5 cI cZ (dd 9) S9 ++ (wg7 cI cZ (dd 10) S10 ++ (wg1 (dd 11) (dd 12) (dd 13) S11 ++ (wg5 cI cZ (dd 12) S12 ++ (wg7 cI cZ (dd 13) S13 ++ (wgi cO dd ++ (wg9 cI cZ (dd 16) S16)))))))))))))))) hP (hD S0 S1 S2 S3 S4 S5 S6 S7 S8 S9 S10 S11 S12 S13 S16) [0, 1, 2, 3, 4, 5, 6, 7, 8, 9, 64] [10, 11, 12, 13, 14, 15, 16, 17, 18, 19, 20, 21, 22, 23, 24, 25, 26, 27, 28, 29, 30, 31, 32, 33, 34, 35, 36, 37, 38, 39, 40, 41, 42, 43, 44, 45, 46, 47, 48, 49, 50, 51, 52, 53, 54, 55, 56, 57, 58, 59, 60, 61, 62, 63, 65, 66, 67, 68, 69, 70, 71, 72, 73, 74, 75, 76, 77, 78, 79, 80, 81, 82, 83, 84, 85, 86, 87, 88] rfl rfl (by decide) (by decide) hk hFc hP1 hDc rfl).sub [78, 79, 80, 81, 82, 83, 84, 85, 86, 87, 0, 1, 2, 3, 4, 5, 6, 7, 8, 9, 10, 11, 12, 13, 14, 15, 16, 17, 18, 19, 20, 21, 22, 23, 24, 25, 26, 27, 28, 29, 30, 31, 32, 33, 34, 35, 36, 37, 38, 39, 40, 41, 42, 43, 44, 45, 46, 47, 48, 49, 50, 51, 52, 53, 88, 54, 55, 56, 57, 58, 59, 60, 61, 62, 63, 64, 65, 66, 67, 68, 69, 70, 71, 72, 73, 74, 75, 76, 77] rfl
        refine lv_aload_n hx hb dL_law_167 rfl (lv_at hl 2 rfl) ?_
        refine lv_aload_n hx hb dL_law_168 rfl (lv_at hl 0 rfl) ?_
        refine lv_iload_n hx hb dL_law_169 rfl (lv_at hl 3 rfl) ?_
        refine lv_iconst (v := 1) hx hb dL_law_170 (by decide) ?_
        refine lv_iadd hx hb dL_law_171 ?_
        refine va_sld hx hb hX hbl hbA hS (q_in g4) dL_law_172 ?_
        refine lv_aload_n hx hb dL_law_173 rfl (lv_at hl 0 rfl) ?_
        refine lv_iload_n hx hb dL_law_174 rfl (lv_at hl 3 rfl) ?_
        refine lv_iconst (v := 2) hx hb dL_law_175 (by decide) ?_
        refine lv_iadd hx hb dL_law_176 ?_
        refine va_sld hx hb hX hbl hbA hS (q_in g5) dL_law_177 ?_
        refine lv_aload_n hx hb dL_law_178 rfl (lv_at hl 0 rfl) ?_
        refine lv_iload_n hx hb dL_law_179 rfl (lv_at hl 3 rfl) ?_
        refine lv_iconst (v := 3) hx hb dL_law_180 (by decide) ?_
        refine lv_iadd hx hb dL_law_181 ?_
        refine va_sld hx hb hX hbl hbA hS (q_in g6) dL_law_182 ?_
        obtain ⟨q9, hq9, ht⟩ := it_b ht
        have hPc : va_P D vwCl (wg9 cI cZ (dd 16) S16) H := hP.sub [66, 67, 68, 69, 70, 71, 72, 73, 74, 75, 76, 77, 78, 79, 80, 81, 82, 83, 84, 85, 86, 87, 88] rfl
        have hDc : va_D A (wg9 cI cZ (dd 16) S16) := ((hD q7.2 S1 S2 S3 S4 S5 S6 S7 S8 S9 S10 S11 S12 S13 S16)).sub [66, 67, 68, 69, 70, 71, 72, 73, 74, 75, 76, 77, 78, 79, 80, 81, 82, 83, 84, 85, 86, 87, 88] (by decide) rfl
        have hFc := va_free (wc := (wg9 cI cZ (dd 16) S16)) (hD q7.2 S1 S2 S3 S4 S5 S6 S7 S8 S9 S10 S11 S12 S13 S16) hS hA [66, 67, 68, 69, 70, 71, 72, 73, 74, 75, 76, 77, 78, 79, 80, 81, 82, 83, 84, 85, 86, 87, 88] rfl
        refine q_mi (va_runV (As := [.int (xs (x3 + 1).toNatClampNeg), .int (xs (x3 + 2).toNatClampNeg), .int (xs (x3 + 3).toNatClampNeg)]) (rest := [.int q7.1]) ⟨hx, hb, hml, hown, hts⟩ (kX9_person l D cI cZ cO (dd 16) H.size S16 (xs (x3 + 1).toNatClampNeg) (xs (x3 + 2).toNatClampNeg) (xs (x3 + 3).toNatClampNeg) q9 hq9) (cwV 3 hts gL_law_X9_person rfl rfl rfl (by decide +kernel) ⟨Nat.le_of_ble_eq_true rfl, Nat.le_of_ble_eq_true rfl⟩) (q_mV (As := [.int (xs (x3 + 1).toNatClampNeg), .int (xs (x3 + 2).toNatClampNeg), .int (xs (x3 + 3).toNatClampNeg)]) hE hPc hDc (q0 := 0) (ci := 9) rfl rfl) rfl rfl hl.1 rfl (lv_room (Nat.le_of_ble_eq_true rfl)) dL_law_183 ⟨Nat.le_of_ble_eq_true rfl, Nat.le_of_ble_eq_true rfl⟩) hS hFc (fun H locs b10 hP1 hk hS => ?_)
        have hP : va_P D vwCl (wg5 cI cZ (dd 0) q7.2 ++ (wg4 cI cZ (dd 1) S1 ++ (wg3 (dd 2) (dd 3) (dd 4) S2 ++ (wg5 cI cZ (dd 3) S3 ++ (wg0 cI cZ (dd 4) S4 ++ (wg6 cI cZ (dd 5) S5 ++ (wg7 cI cZ (dd 6) S6 ++ (wg2 cI cZ (dd 7) S7 ++ (wg1 (dd 8) (dd 9) (dd 10) S8 ++ (wg5 cI cZ (dd 9) S9 ++ (wg7 cI cZ (dd 10) S10 ++ (wg1 (dd 11) (dd 12) (dd 13) S11 ++ (wg5 cI cZ (dd 12) S12 ++ (wg7 cI cZ (dd 13) S13 ++ (wg8 dd ++ (wgi cO dd ++ (wg9 cI cZ (dd 16) q9.2))))))))))))))))) H := (q_join (wr := (wg5 cI cZ (dd 0) q7.2 ++ (wg4 cI cZ (dd 1) S1 ++ (wg3 (dd 2) (dd 3) (dd 4) S2 ++ (wg5 cI cZ (dd 3) S3 ++ (wg0 cI cZ (dd 4) S4 ++ (wg6 cI cZ (dd 5) S5 ++ (wg7 cI cZ (dd 6) S6 ++ (wg2 cI cZ (dd 7) S7 ++ (wg1 (dd 8) (dd 9) (dd 10) S8 ++ (wg5 cI cZ (dd 9) S9 ++ (wg7 cI cZ (dd 10) S10 ++ (wg1 (dd 11) (dd 12) (dd 13) S11 ++ (wg5 cI cZ (dd 12) S12 ++ (wg7 cI cZ (dd 13) S13 ++ (wg8 dd ++ (wgi cO dd))))))))))))))))) hP (hD q7.2 S1 S2 S3 S4 S5 S6 S7 S8 S9 S10 S11 S12 S13 S16) [66, 67, 68, 69, 70, 71, 72, 73, 74, 75, 76, 77, 78, 79, 80, 81, 82, 83, 84, 85, 86, 87, 88] [0, 1, 2, 3, 4, 5, 6, 7, 8, 9, 10, 11, 12, 13, 14, 15, 16, 17, 18, 19, 20, 21, 22, 23, 24, 25, 26, 27, 28, 29, 30, 31, 32, 33, 34, 35, 36, 37, 38, 39, 40, 41, 42, 43, 44, 45, 46, 47, 48, 49, 50, 51, 52, 53, 54, 55, 56, 57, 58, 59, 60, 61, 62, 63, 64, 65] rfl rfl (by decide) (by decide) hk hFc hP1 hDc rfl).sub [0, 1, 2, 3, 4, 5, 6, 7, 8, 9, 10, 11, 12, 13, 14, 15, 16, 17, 18, 19, 20, 21, 22, 23, 24, 25, 26, 27, 28, 29, 30, 31, 32, 33, 34, 35, 36, 37, 38, 39, 40, 41, 42, 43, 44, 45, 46, 47, 48, 49, 50, 51, 52, 53, 54, 55, 56, 57, 58, 59, 60, 61, 62, 63, 64, 65, 66, 67, 68, 69, 70, 71, 72, 73, 74, 75, 76, 77, 78, 79, 80, 81, 82, 83, 84, 85, 86, 87, 88] rfl
        refine lv_icmp_eq (tgt := 874) hx hb dL_law_186 (by decide) (fun c11 => ?_) (fun c11 => ?_)
        · have ht := it_p c11 ht
          refine lv_iinc (v := x3 + 5) (lv' := [(3, .int (x3 + 5)), (0, .ref b), (1, .ref (dd 14 0)), (2, .ref (dd 16 0))]) hx hb dL_law_874 hl (k := 3) rfl rfl (by decide) rfl (fun ls hl => ?_)
          refine lv_goto (tgt := 18) hx hb dL_law_877 (by decide) ?_
          exact ih18 (x3 + 5) q7.2 S1 S2 S3 S4 S5 S6 S7 S8 S9 S10 S11 S12 S13 q9.2 _ _ hP hS ls (lv_sub hl [1, 2, 3, 0] rfl) ht
        · have ht := it_n c11 ht
          refine lv_iconst (v := 0) hx hb dL_law_189 (by decide) ?_
          exact absurd (Option.some.inj ht) (by decide)
      have ht := it_n c3 ht
      by_cases c12 : (xs x3.toNatClampNeg) &&& 31 = 1
      · have ht := it_p c12 ht
        refine lv_tableIn (tgt := 191) hx hb dL_law_32 (by rw [c12]; decide) (by rw [c12]; decide) (by rw [c12]; rfl) (by decide) ?_
        refine lv_aload_n hx hb dL_law_191 rfl (lv_at hl 1 rfl) ?_
        refine lv_aload_n hx hb dL_law_192 rfl (lv_at hl 0 rfl) ?_
        refine lv_iload_n hx hb dL_law_193 rfl (lv_at hl 3 rfl) ?_
        refine lv_iconst (v := 1) hx hb dL_law_194 (by decide) ?_
        refine lv_iadd hx hb dL_law_195 ?_
        obtain ⟨g13, ht⟩ := it_g ht
        refine va_sld hx hb hX hbl hbA hS (q_in g13) dL_law_196 ?_
        refine lv_aload_n hx hb dL_law_197 rfl (lv_at hl 0 rfl) ?_
        refine lv_iload_n hx hb dL_law_198 rfl (lv_at hl 3 rfl) ?_
        refine lv_iconst (v := 2) hx hb dL_law_199 (by decide) ?_
        refine lv_iadd hx hb dL_law_200 ?_
        obtain ⟨g14, ht⟩ := it_g ht
        refine va_sld hx hb hX hbl hbA hS (q_in g14) dL_law_201 ?_
        refine lv_aload_n hx hb dL_law_202 rfl (lv_at hl 0 rfl) ?_
        refine lv_iload_n hx hb dL_law_203 rfl (lv_at hl 3 rfl) ?_
        refine lv_iconst (v := 3) hx hb dL_law_204 (by decide) ?_
        refine lv_iadd hx hb dL_law_205 ?_
        obtain ⟨g15, ht⟩ := it_g ht
        refine va_sld hx hb hX hbl hbA hS (q_in g15) dL_law_206 ?_
        refine lv_aload_n hx hb dL_law_207 rfl (lv_at hl 0 rfl) ?_
        refine lv_iload_n hx hb dL_law_208 rfl (lv_at hl 3 rfl) ?_
        refine lv_iconst (v := 4) hx hb dL_law_209 (by decide) ?_
        refine lv_iadd hx hb dL_law_210 ?_
        obtain ⟨g16, ht⟩ := it_g ht
        refine va_sld hx hb hX hbl hbA hS (q_in g16) dL_law_211 ?_
        obtain ⟨q17, hq17, ht⟩ := it_b ht
        have hPc : va_P D vwCl (wg5 cI cZ (dd 0) S0 ++ (wg8 dd)) H := hP.sub [0, 1, 2, 3, 4, 5, 6, 7, 8, 9, 64] rfl
        have hDc : va_D A (wg5 cI cZ (dd 0) S0 ++ (wg8 dd)) := ((hD S0 S1 S2 S3 S4 S5 S6 S7 S8 S9 S10 S11 S12 S13 S16)).sub [0, 1, 2, 3, 4, 5, 6, 7, 8, 9, 64] (by decide) rfl
        have hFc := va_free (wc := (wg5 cI cZ (dd 0) S0 ++ (wg8 dd))) (hD S0 S1 S2 S3 S4 S5 S6 S7 S8 S9 S10 S11 S12 S13 S16) hS hA [0, 1, 2, 3, 4, 5, 6, 7, 8, 9, 64] rfl
        refine q_mi (va_runV (As := [.int (xs (x3 + 1).toNatClampNeg), .int (xs (x3 + 2).toNatClampNeg), .int (xs (x3 + 3).toNatClampNeg), .int (xs (x3 + 4).toNatClampNeg)]) (rest := []) ⟨hx, hb, hml, hown, hts⟩ (kX8_stone l D cI cZ cO dd H.size S0 (xs (x3 + 1).toNatClampNeg) (xs (x3 + 2).toNatClampNeg) (xs (x3 + 3).toNatClampNeg) (xs (x3 + 4).toNatClampNeg) q17 hq17) (cwV 4 hts gL_law_X8_stone rfl rfl rfl (by decide +kernel) ⟨Nat.le_of_ble_eq_true rfl, Nat.le_of_ble_eq_true rfl⟩) (q_mV (As := [.int (xs (x3 + 1).toNatClampNeg), .int (xs (x3 + 2).toNatClampNeg), .int (xs (x3 + 3).toNatClampNeg), .int (xs (x3 + 4).toNatClampNeg)]) hE hPc hDc (q0 := 10) (ci := 8) rfl rfl) rfl rfl hl.1 rfl (lv_room (Nat.le_of_ble_eq_true rfl)) dL_law_212 ⟨Nat.le_of_ble_eq_true rfl, Nat.le_of_ble_eq_true rfl⟩) hS hFc (fun H locs b18 hP1 hk hS => ?_)
        have hP : va_P D vwCl (wg5 cI cZ (dd 0) q17.2 ++ (wg4 cI cZ (dd 1) S1 ++ (wg3 (dd 2) (dd 3) (dd 4) S2 ++ (wg5 cI cZ (dd 3) S3 ++ (wg0 cI cZ (dd 4) S4 ++ (wg6 cI cZ (dd 5) S5 ++ (wg7 cI cZ (dd 6) S6 ++ (wg2 cI cZ (dd 7) S7 ++ (wg1 (dd 8) (dd 9) (dd 10) S8 ++ (wg5 cI cZ (dd 9) S9 ++ (wg7 cI cZ (dd 10) S10 ++ (wg1 (dd 11) (dd 12) (dd 13) S11 ++ (wg5 cI cZ (dd 12) S12 ++ (wg7 cI cZ (dd 13) S13 ++ (wg8 dd ++ (wgi cO dd ++ (wg9 cI cZ (dd 16) S16))))))))))))))))) H := (q_join (wr := (wg4 cI cZ (dd 1) S1 ++ (wg3 (dd 2) (dd 3) (dd 4) S2 ++ (wg5 cI cZ (dd 3) S3 ++ (wg0 cI cZ (dd 4) S4 ++ (wg6 cI cZ (dd 5) S5 ++ (wg7 cI cZ (dd 6) S6 ++ (wg2 cI cZ (dd 7) S7 ++ (wg1 (dd 8) (dd 9) (dd 10) S8 ++ (wg5 cI cZ (dd 9) S9 ++ (wg7 cI cZ (dd 10) S10 ++ (wg1 (dd 11) (dd 12) (dd 13) S11 ++ (wg5 cI cZ (dd 12) S12 ++ (wg7 cI cZ (dd 13) S13 ++ (wgi cO dd ++ (wg9 cI cZ (dd 16) S16)))))))))))))))) hP (hD S0 S1 S2 S3 S4 S5 S6 S7 S8 S9 S10 S11 S12 S13 S16) [0, 1, 2, 3, 4, 5, 6, 7, 8, 9, 64] [10, 11, 12, 13, 14, 15, 16, 17, 18, 19, 20, 21, 22, 23, 24, 25, 26, 27, 28, 29, 30, 31, 32, 33, 34, 35, 36, 37, 38, 39, 40, 41, 42, 43, 44, 45, 46, 47, 48, 49, 50, 51, 52, 53, 54, 55, 56, 57, 58, 59, 60, 61, 62, 63, 65, 66, 67, 68, 69, 70, 71, 72, 73, 74, 75, 76, 77, 78, 79, 80, 81, 82, 83, 84, 85, 86, 87, 88] rfl rfl (by decide) (by decide) hk hFc hP1 hDc rfl).sub [78, 79, 80, 81, 82, 83, 84, 85, 86, 87, 0, 1, 2, 3, 4, 5, 6, 7, 8, 9, 10, 11, 12, 13, 14, 15, 16, 17, 18, 19, 20, 21, 22, 23, 24, 25, 26, 27, 28, 29, 30, 31, 32, 33, 34, 35, 36, 37, 38, 39, 40, 41, 42, 43, 44, 45, 46, 47, 48, 49, 50, 51, 52, 53, 88, 54, 55, 56, 57, 58, 59, 60, 61, 62, 63, 64, 65, 66, 67, 68, 69, 70, 71, 72, 73, 74, 75, 76, 77] rfl
        refine lv_aload_n hx hb dL_law_215 rfl (lv_at hl 2 rfl) ?_
        refine lv_aload_n hx hb dL_law_216 rfl (lv_at hl 0 rfl) ?_
        refine lv_iload_n hx hb dL_law_217 rfl (lv_at hl 3 rfl) ?_
        refine lv_iconst (v := 1) hx hb dL_law_218 (by decide) ?_
        refine lv_iadd hx hb dL_law_219 ?_
        refine va_sld hx hb hX hbl hbA hS (q_in g13) dL_law_220 ?_
        refine lv_aload_n hx hb dL_law_221 rfl (lv_at hl 0 rfl) ?_
        refine lv_iload_n hx hb dL_law_222 rfl (lv_at hl 3 rfl) ?_
        refine lv_iconst (v := 2) hx hb dL_law_223 (by decide) ?_
        refine lv_iadd hx hb dL_law_224 ?_
        refine va_sld hx hb hX hbl hbA hS (q_in g14) dL_law_225 ?_
        refine lv_aload_n hx hb dL_law_226 rfl (lv_at hl 0 rfl) ?_
        refine lv_iload_n hx hb dL_law_227 rfl (lv_at hl 3 rfl) ?_
        refine lv_iconst (v := 3) hx hb dL_law_228 (by decide) ?_
        refine lv_iadd hx hb dL_law_229 ?_
        refine va_sld hx hb hX hbl hbA hS (q_in g15) dL_law_230 ?_
        refine lv_aload_n hx hb dL_law_231 rfl (lv_at hl 0 rfl) ?_
        refine lv_iload_n hx hb dL_law_232 rfl (lv_at hl 3 rfl) ?_
        refine lv_iconst (v := 4) hx hb dL_law_233 (by decide) ?_
        refine lv_iadd hx hb dL_law_234 ?_
        refine va_sld hx hb hX hbl hbA hS (q_in g16) dL_law_235 ?_
        obtain ⟨q19, hq19, ht⟩ := it_b ht
        have hPc : va_P D vwCl (wg9 cI cZ (dd 16) S16) H := hP.sub [66, 67, 68, 69, 70, 71, 72, 73, 74, 75, 76, 77, 78, 79, 80, 81, 82, 83, 84, 85, 86, 87, 88] rfl
        have hDc : va_D A (wg9 cI cZ (dd 16) S16) := ((hD q17.2 S1 S2 S3 S4 S5 S6 S7 S8 S9 S10 S11 S12 S13 S16)).sub [66, 67, 68, 69, 70, 71, 72, 73, 74, 75, 76, 77, 78, 79, 80, 81, 82, 83, 84, 85, 86, 87, 88] (by decide) rfl
        have hFc := va_free (wc := (wg9 cI cZ (dd 16) S16)) (hD q17.2 S1 S2 S3 S4 S5 S6 S7 S8 S9 S10 S11 S12 S13 S16) hS hA [66, 67, 68, 69, 70, 71, 72, 73, 74, 75, 76, 77, 78, 79, 80, 81, 82, 83, 84, 85, 86, 87, 88] rfl
        refine q_mi (va_runV (As := [.int (xs (x3 + 1).toNatClampNeg), .int (xs (x3 + 2).toNatClampNeg), .int (xs (x3 + 3).toNatClampNeg), .int (xs (x3 + 4).toNatClampNeg)]) (rest := [.int q17.1]) ⟨hx, hb, hml, hown, hts⟩ (kX9_stone l D cI cZ cO (dd 16) H.size S16 (xs (x3 + 1).toNatClampNeg) (xs (x3 + 2).toNatClampNeg) (xs (x3 + 3).toNatClampNeg) (xs (x3 + 4).toNatClampNeg) q19 hq19) (cwV 4 hts gL_law_X9_stone rfl rfl rfl (by decide +kernel) ⟨Nat.le_of_ble_eq_true rfl, Nat.le_of_ble_eq_true rfl⟩) (q_mV (As := [.int (xs (x3 + 1).toNatClampNeg), .int (xs (x3 + 2).toNatClampNeg), .int (xs (x3 + 3).toNatClampNeg), .int (xs (x3 + 4).toNatClampNeg)]) hE hPc hDc (q0 := 0) (ci := 9) rfl rfl) rfl rfl hl.1 rfl (lv_room (Nat.le_of_ble_eq_true rfl)) dL_law_236 ⟨Nat.le_of_ble_eq_true rfl, Nat.le_of_ble_eq_true rfl⟩) hS hFc (fun H locs b20 hP1 hk hS => ?_)
        have hP : va_P D vwCl (wg5 cI cZ (dd 0) q17.2 ++ (wg4 cI cZ (dd 1) S1 ++ (wg3 (dd 2) (dd 3) (dd 4) S2 ++ (wg5 cI cZ (dd 3) S3 ++ (wg0 cI cZ (dd 4) S4 ++ (wg6 cI cZ (dd 5) S5 ++ (wg7 cI cZ (dd 6) S6 ++ (wg2 cI cZ (dd 7) S7 ++ (wg1 (dd 8) (dd 9) (dd 10) S8 ++ (wg5 cI cZ (dd 9) S9 ++ (wg7 cI cZ (dd 10) S10 ++ (wg1 (dd 11) (dd 12) (dd 13) S11 ++ (wg5 cI cZ (dd 12) S12 ++ (wg7 cI cZ (dd 13) S13 ++ (wg8 dd ++ (wgi cO dd ++ (wg9 cI cZ (dd 16) q19.2))))))))))))))))) H := (q_join (wr := (wg5 cI cZ (dd 0) q17.2 ++ (wg4 cI cZ (dd 1) S1 ++ (wg3 (dd 2) (dd 3) (dd 4) S2 ++ (wg5 cI cZ (dd 3) S3 ++ (wg0 cI cZ (dd 4) S4 ++ (wg6 cI cZ (dd 5) S5 ++ (wg7 cI cZ (dd 6) S6 ++ (wg2 cI cZ (dd 7) S7 ++ (wg1 (dd 8) (dd 9) (dd 10) S8 ++ (wg5 cI cZ (dd 9) S9 ++ (wg7 cI cZ (dd 10) S10 ++ (wg1 (dd 11) (dd 12) (dd 13) S11 ++ (wg5 cI cZ (dd 12) S12 ++ (wg7 cI cZ (dd 13) S13 ++ (wg8 dd ++ (wgi cO dd))))))))))))))))) hP (hD q17.2 S1 S2 S3 S4 S5 S6 S7 S8 S9 S10 S11 S12 S13 S16) [66, 67, 68, 69, 70, 71, 72, 73, 74, 75, 76, 77, 78, 79, 80, 81, 82, 83, 84, 85, 86, 87, 88] [0, 1, 2, 3, 4, 5, 6, 7, 8, 9, 10, 11, 12, 13, 14, 15, 16, 17, 18, 19, 20, 21, 22, 23, 24, 25, 26, 27, 28, 29, 30, 31, 32, 33, 34, 35, 36, 37, 38, 39, 40, 41, 42, 43, 44, 45, 46, 47, 48, 49, 50, 51, 52, 53, 54, 55, 56, 57, 58, 59, 60, 61, 62, 63, 64, 65] rfl rfl (by decide) (by decide) hk hFc hP1 hDc rfl).sub [0, 1, 2, 3, 4, 5, 6, 7, 8, 9, 10, 11, 12, 13, 14, 15, 16, 17, 18, 19, 20, 21, 22, 23, 24, 25, 26, 27, 28, 29, 30, 31, 32, 33, 34, 35, 36, 37, 38, 39, 40, 41, 42, 43, 44, 45, 46, 47, 48, 49, 50, 51, 52, 53, 54, 55, 56, 57, 58, 59, 60, 61, 62, 63, 64, 65, 66, 67, 68, 69, 70, 71, 72, 73, 74, 75, 76, 77, 78, 79, 80, 81, 82, 83, 84, 85, 86, 87, 88] rfl
        refine lv_icmp_eq (tgt := 874) hx hb dL_law_239 (by decide) (fun c21 => ?_) (fun c21 => ?_)
        · have ht := it_p c21 ht
          refine lv_iinc (v := x3 + 5) (lv' := [(3, .int (x3 + 5)), (0, .ref b), (1, .ref (dd 14 0)), (2, .ref (dd 16 0))]) hx hb dL_law_874 hl (k := 3) rfl rfl (by decide) rfl (fun ls hl => ?_)
          refine lv_goto (tgt := 18) hx hb dL_law_877 (by decide) ?_
          exact ih18 (x3 + 5) q17.2 S1 S2 S3 S4 S5 S6 S7 S8 S9 S10 S11 S12 S13 q19.2 _ _ hP hS ls (lv_sub hl [1, 2, 3, 0] rfl) ht
        · have ht := it_n c21 ht
          refine lv_iconst (v := 0) hx hb dL_law_242 (by decide) ?_
          exact absurd (Option.some.inj ht) (by decide)
      have ht := it_n c12 ht
      by_cases c22 : (xs x3.toNatClampNeg) &&& 31 = 2
      · have ht := it_p c22 ht
        refine lv_tableIn (tgt := 244) hx hb dL_law_32 (by rw [c22]; decide) (by rw [c22]; decide) (by rw [c22]; rfl) (by decide) ?_
        refine lv_aload_n hx hb dL_law_244 rfl (lv_at hl 1 rfl) ?_
        refine lv_aload_n hx hb dL_law_245 rfl (lv_at hl 0 rfl) ?_
        refine lv_iload_n hx hb dL_law_246 rfl (lv_at hl 3 rfl) ?_
        refine lv_iconst (v := 1) hx hb dL_law_247 (by decide) ?_
        refine lv_iadd hx hb dL_law_248 ?_
        obtain ⟨g23, ht⟩ := it_g ht
        refine va_sld hx hb hX hbl hbA hS (q_in g23) dL_law_249 ?_
        refine lv_aload_n hx hb dL_law_250 rfl (lv_at hl 0 rfl) ?_
        refine lv_iload_n hx hb dL_law_251 rfl (lv_at hl 3 rfl) ?_
        refine lv_iconst (v := 2) hx hb dL_law_252 (by decide) ?_
        refine lv_iadd hx hb dL_law_253 ?_
        obtain ⟨g24, ht⟩ := it_g ht
        refine va_sld hx hb hX hbl hbA hS (q_in g24) dL_law_254 ?_
        refine lv_aload_n hx hb dL_law_255 rfl (lv_at hl 0 rfl) ?_
        refine lv_iload_n hx hb dL_law_256 rfl (lv_at hl 3 rfl) ?_
        refine lv_iconst (v := 3) hx hb dL_law_257 (by decide) ?_
        refine lv_iadd hx hb dL_law_258 ?_
        obtain ⟨g25, ht⟩ := it_g ht
        refine va_sld hx hb hX hbl hbA hS (q_in g25) dL_law_259 ?_
        obtain ⟨q26, hq26, ht⟩ := it_b ht
        have hPc : va_P D vwCl (wg5 cI cZ (dd 0) S0 ++ (wg8 dd)) H := hP.sub [0, 1, 2, 3, 4, 5, 6, 7, 8, 9, 64] rfl
        have hDc : va_D A (wg5 cI cZ (dd 0) S0 ++ (wg8 dd)) := ((hD S0 S1 S2 S3 S4 S5 S6 S7 S8 S9 S10 S11 S12 S13 S16)).sub [0, 1, 2, 3, 4, 5, 6, 7, 8, 9, 64] (by decide) rfl
        have hFc := va_free (wc := (wg5 cI cZ (dd 0) S0 ++ (wg8 dd))) (hD S0 S1 S2 S3 S4 S5 S6 S7 S8 S9 S10 S11 S12 S13 S16) hS hA [0, 1, 2, 3, 4, 5, 6, 7, 8, 9, 64] rfl
        refine q_mi (va_runV (As := [.int (xs (x3 + 1).toNatClampNeg), .int (xs (x3 + 2).toNatClampNeg), .int (xs (x3 + 3).toNatClampNeg)]) (rest := []) ⟨hx, hb, hml, hown, hts⟩ (kX8_reader l D cI cZ cO dd H.size S0 (xs (x3 + 1).toNatClampNeg) (xs (x3 + 2).toNatClampNeg) (xs (x3 + 3).toNatClampNeg) q26 hq26) (cwV 3 hts gL_law_X8_reader rfl rfl rfl (by decide +kernel) ⟨Nat.le_of_ble_eq_true rfl, Nat.le_of_ble_eq_true rfl⟩) (q_mV (As := [.int (xs (x3 + 1).toNatClampNeg), .int (xs (x3 + 2).toNatClampNeg), .int (xs (x3 + 3).toNatClampNeg)]) hE hPc hDc (q0 := 10) (ci := 8) rfl rfl) rfl rfl hl.1 rfl (lv_room (Nat.le_of_ble_eq_true rfl)) dL_law_260 ⟨Nat.le_of_ble_eq_true rfl, Nat.le_of_ble_eq_true rfl⟩) hS hFc (fun H locs b27 hP1 hk hS => ?_)
        have hP : va_P D vwCl (wg5 cI cZ (dd 0) q26.2 ++ (wg4 cI cZ (dd 1) S1 ++ (wg3 (dd 2) (dd 3) (dd 4) S2 ++ (wg5 cI cZ (dd 3) S3 ++ (wg0 cI cZ (dd 4) S4 ++ (wg6 cI cZ (dd 5) S5 ++ (wg7 cI cZ (dd 6) S6 ++ (wg2 cI cZ (dd 7) S7 ++ (wg1 (dd 8) (dd 9) (dd 10) S8 ++ (wg5 cI cZ (dd 9) S9 ++ (wg7 cI cZ (dd 10) S10 ++ (wg1 (dd 11) (dd 12) (dd 13) S11 ++ (wg5 cI cZ (dd 12) S12 ++ (wg7 cI cZ (dd 13) S13 ++ (wg8 dd ++ (wgi cO dd ++ (wg9 cI cZ (dd 16) S16))))))))))))))))) H := (q_join (wr := (wg4 cI cZ (dd 1) S1 ++ (wg3 (dd 2) (dd 3) (dd 4) S2 ++ (wg5 cI cZ (dd 3) S3 ++ (wg0 cI cZ (dd 4) S4 ++ (wg6 cI cZ (dd 5) S5 ++ (wg7 cI cZ (dd 6) S6 ++ (wg2 cI cZ (dd 7) S7 ++ (wg1 (dd 8) (dd 9) (dd 10) S8 ++ (wg5 cI cZ (dd 9) S9 ++ (wg7 cI cZ (dd 10) S10 ++ (wg1 (dd 11) (dd 12) (dd 13) S11 ++ (wg5 cI cZ (dd 12) S12 ++ (wg7 cI cZ (dd 13) S13 ++ (wgi cO dd ++ (wg9 cI cZ (dd 16) S16)))))))))))))))) hP (hD S0 S1 S2 S3 S4 S5 S6 S7 S8 S9 S10 S11 S12 S13 S16) [0, 1, 2, 3, 4, 5, 6, 7, 8, 9, 64] [10, 11, 12, 13, 14, 15, 16, 17, 18, 19, 20, 21, 22, 23, 24, 25, 26, 27, 28, 29, 30, 31, 32, 33, 34, 35, 36, 37, 38, 39, 40, 41, 42, 43, 44, 45, 46, 47, 48, 49, 50, 51, 52, 53, 54, 55, 56, 57, 58, 59, 60, 61, 62, 63, 65, 66, 67, 68, 69, 70, 71, 72, 73, 74, 75, 76, 77, 78, 79, 80, 81, 82, 83, 84, 85, 86, 87, 88] rfl rfl (by decide) (by decide) hk hFc hP1 hDc rfl).sub [78, 79, 80, 81, 82, 83, 84, 85, 86, 87, 0, 1, 2, 3, 4, 5, 6, 7, 8, 9, 10, 11, 12, 13, 14, 15, 16, 17, 18, 19, 20, 21, 22, 23, 24, 25, 26, 27, 28, 29, 30, 31, 32, 33, 34, 35, 36, 37, 38, 39, 40, 41, 42, 43, 44, 45, 46, 47, 48, 49, 50, 51, 52, 53, 88, 54, 55, 56, 57, 58, 59, 60, 61, 62, 63, 64, 65, 66, 67, 68, 69, 70, 71, 72, 73, 74, 75, 76, 77] rfl
        refine lv_aload_n hx hb dL_law_263 rfl (lv_at hl 2 rfl) ?_
        refine lv_aload_n hx hb dL_law_264 rfl (lv_at hl 0 rfl) ?_
        refine lv_iload_n hx hb dL_law_265 rfl (lv_at hl 3 rfl) ?_
        refine lv_iconst (v := 1) hx hb dL_law_266 (by decide) ?_
        refine lv_iadd hx hb dL_law_267 ?_
        refine va_sld hx hb hX hbl hbA hS (q_in g23) dL_law_268 ?_
        refine lv_aload_n hx hb dL_law_269 rfl (lv_at hl 0 rfl) ?_
        refine lv_iload_n hx hb dL_law_270 rfl (lv_at hl 3 rfl) ?_
        refine lv_iconst (v := 2) hx hb dL_law_271 (by decide) ?_
        refine lv_iadd hx hb dL_law_272 ?_
        refine va_sld hx hb hX hbl hbA hS (q_in g24) dL_law_273 ?_
        refine lv_aload_n hx hb dL_law_274 rfl (lv_at hl 0 rfl) ?_
        refine lv_iload_n hx hb dL_law_275 rfl (lv_at hl 3 rfl) ?_
        refine lv_iconst (v := 3) hx hb dL_law_276 (by decide) ?_
        refine lv_iadd hx hb dL_law_277 ?_
        refine va_sld hx hb hX hbl hbA hS (q_in g25) dL_law_278 ?_
        obtain ⟨q28, hq28, ht⟩ := it_b ht
        have hPc : va_P D vwCl (wg9 cI cZ (dd 16) S16) H := hP.sub [66, 67, 68, 69, 70, 71, 72, 73, 74, 75, 76, 77, 78, 79, 80, 81, 82, 83, 84, 85, 86, 87, 88] rfl
        have hDc : va_D A (wg9 cI cZ (dd 16) S16) := ((hD q26.2 S1 S2 S3 S4 S5 S6 S7 S8 S9 S10 S11 S12 S13 S16)).sub [66, 67, 68, 69, 70, 71, 72, 73, 74, 75, 76, 77, 78, 79, 80, 81, 82, 83, 84, 85, 86, 87, 88] (by decide) rfl
        have hFc := va_free (wc := (wg9 cI cZ (dd 16) S16)) (hD q26.2 S1 S2 S3 S4 S5 S6 S7 S8 S9 S10 S11 S12 S13 S16) hS hA [66, 67, 68, 69, 70, 71, 72, 73, 74, 75, 76, 77, 78, 79, 80, 81, 82, 83, 84, 85, 86, 87, 88] rfl
        refine q_mi (va_runV (As := [.int (xs (x3 + 1).toNatClampNeg), .int (xs (x3 + 2).toNatClampNeg), .int (xs (x3 + 3).toNatClampNeg)]) (rest := [.int q26.1]) ⟨hx, hb, hml, hown, hts⟩ (kX9_reader l D cI cZ cO (dd 16) H.size S16 (xs (x3 + 1).toNatClampNeg) (xs (x3 + 2).toNatClampNeg) (xs (x3 + 3).toNatClampNeg) q28 hq28) (cwV 3 hts gL_law_X9_reader rfl rfl rfl (by decide +kernel) ⟨Nat.le_of_ble_eq_true rfl, Nat.le_of_ble_eq_true rfl⟩) (q_mV (As := [.int (xs (x3 + 1).toNatClampNeg), .int (xs (x3 + 2).toNatClampNeg), .int (xs (x3 + 3).toNatClampNeg)]) hE hPc hDc (q0 := 0) (ci := 9) rfl rfl) rfl rfl hl.1 rfl (lv_room (Nat.le_of_ble_eq_true rfl)) dL_law_279 ⟨Nat.le_of_ble_eq_true rfl, Nat.le_of_ble_eq_true rfl⟩) hS hFc (fun H locs b29 hP1 hk hS => ?_)
        have hP : va_P D vwCl (wg5 cI cZ (dd 0) q26.2 ++ (wg4 cI cZ (dd 1) S1 ++ (wg3 (dd 2) (dd 3) (dd 4) S2 ++ (wg5 cI cZ (dd 3) S3 ++ (wg0 cI cZ (dd 4) S4 ++ (wg6 cI cZ (dd 5) S5 ++ (wg7 cI cZ (dd 6) S6 ++ (wg2 cI cZ (dd 7) S7 ++ (wg1 (dd 8) (dd 9) (dd 10) S8 ++ (wg5 cI cZ (dd 9) S9 ++ (wg7 cI cZ (dd 10) S10 ++ (wg1 (dd 11) (dd 12) (dd 13) S11 ++ (wg5 cI cZ (dd 12) S12 ++ (wg7 cI cZ (dd 13) S13 ++ (wg8 dd ++ (wgi cO dd ++ (wg9 cI cZ (dd 16) q28.2))))))))))))))))) H := (q_join (wr := (wg5 cI cZ (dd 0) q26.2 ++ (wg4 cI cZ (dd 1) S1 ++ (wg3 (dd 2) (dd 3) (dd 4) S2 ++ (wg5 cI cZ (dd 3) S3 ++ (wg0 cI cZ (dd 4) S4 ++ (wg6 cI cZ (dd 5) S5 ++ (wg7 cI cZ (dd 6) S6 ++ (wg2 cI cZ (dd 7) S7 ++ (wg1 (dd 8) (dd 9) (dd 10) S8 ++ (wg5 cI cZ (dd 9) S9 ++ (wg7 cI cZ (dd 10) S10 ++ (wg1 (dd 11) (dd 12) (dd 13) S11 ++ (wg5 cI cZ (dd 12) S12 ++ (wg7 cI cZ (dd 13) S13 ++ (wg8 dd ++ (wgi cO dd))))))))))))))))) hP (hD q26.2 S1 S2 S3 S4 S5 S6 S7 S8 S9 S10 S11 S12 S13 S16) [66, 67, 68, 69, 70, 71, 72, 73, 74, 75, 76, 77, 78, 79, 80, 81, 82, 83, 84, 85, 86, 87, 88] [0, 1, 2, 3, 4, 5, 6, 7, 8, 9, 10, 11, 12, 13, 14, 15, 16, 17, 18, 19, 20, 21, 22, 23, 24, 25, 26, 27, 28, 29, 30, 31, 32, 33, 34, 35, 36, 37, 38, 39, 40, 41, 42, 43, 44, 45, 46, 47, 48, 49, 50, 51, 52, 53, 54, 55, 56, 57, 58, 59, 60, 61, 62, 63, 64, 65] rfl rfl (by decide) (by decide) hk hFc hP1 hDc rfl).sub [0, 1, 2, 3, 4, 5, 6, 7, 8, 9, 10, 11, 12, 13, 14, 15, 16, 17, 18, 19, 20, 21, 22, 23, 24, 25, 26, 27, 28, 29, 30, 31, 32, 33, 34, 35, 36, 37, 38, 39, 40, 41, 42, 43, 44, 45, 46, 47, 48, 49, 50, 51, 52, 53, 54, 55, 56, 57, 58, 59, 60, 61, 62, 63, 64, 65, 66, 67, 68, 69, 70, 71, 72, 73, 74, 75, 76, 77, 78, 79, 80, 81, 82, 83, 84, 85, 86, 87, 88] rfl
        refine lv_icmp_eq (tgt := 874) hx hb dL_law_282 (by decide) (fun c30 => ?_) (fun c30 => ?_)
        · have ht := it_p c30 ht
          refine lv_iinc (v := x3 + 5) (lv' := [(3, .int (x3 + 5)), (0, .ref b), (1, .ref (dd 14 0)), (2, .ref (dd 16 0))]) hx hb dL_law_874 hl (k := 3) rfl rfl (by decide) rfl (fun ls hl => ?_)
          refine lv_goto (tgt := 18) hx hb dL_law_877 (by decide) ?_
          exact ih18 (x3 + 5) q26.2 S1 S2 S3 S4 S5 S6 S7 S8 S9 S10 S11 S12 S13 q28.2 _ _ hP hS ls (lv_sub hl [1, 2, 3, 0] rfl) ht
        · have ht := it_n c30 ht
          refine lv_iconst (v := 0) hx hb dL_law_285 (by decide) ?_
          exact absurd (Option.some.inj ht) (by decide)
      have ht := it_n c22 ht
      by_cases c31 : (xs x3.toNatClampNeg) &&& 31 = 3
      · have ht := it_p c31 ht
        refine lv_tableIn (tgt := 287) hx hb dL_law_32 (by rw [c31]; decide) (by rw [c31]; decide) (by rw [c31]; rfl) (by decide) ?_
        refine lv_aload_n hx hb dL_law_287 rfl (lv_at hl 1 rfl) ?_
        refine lv_aload_n hx hb dL_law_288 rfl (lv_at hl 0 rfl) ?_
        refine lv_iload_n hx hb dL_law_289 rfl (lv_at hl 3 rfl) ?_
        refine lv_iconst (v := 1) hx hb dL_law_290 (by decide) ?_
        refine lv_iadd hx hb dL_law_291 ?_
        obtain ⟨g32, ht⟩ := it_g ht
        refine va_sld hx hb hX hbl hbA hS (q_in g32) dL_law_292 ?_
        obtain ⟨q33, hq33, ht⟩ := it_b ht
        have hPc : va_P D vwCl (wg5 cI cZ (dd 0) S0 ++ (wg8 dd)) H := hP.sub [0, 1, 2, 3, 4, 5, 6, 7, 8, 9, 64] rfl
        have hDc : va_D A (wg5 cI cZ (dd 0) S0 ++ (wg8 dd)) := ((hD S0 S1 S2 S3 S4 S5 S6 S7 S8 S9 S10 S11 S12 S13 S16)).sub [0, 1, 2, 3, 4, 5, 6, 7, 8, 9, 64] (by decide) rfl
        have hFc := va_free (wc := (wg5 cI cZ (dd 0) S0 ++ (wg8 dd))) (hD S0 S1 S2 S3 S4 S5 S6 S7 S8 S9 S10 S11 S12 S13 S16) hS hA [0, 1, 2, 3, 4, 5, 6, 7, 8, 9, 64] rfl
        refine q_mi (va_runV (As := [.int (xs (x3 + 1).toNatClampNeg)]) (rest := []) ⟨hx, hb, hml, hown, hts⟩ (kX8_melt l D cI cZ cO dd H.size S0 (xs (x3 + 1).toNatClampNeg) q33 hq33) (cwV 1 hts gL_law_X8_melt rfl rfl rfl (by decide +kernel) ⟨Nat.le_of_ble_eq_true rfl, Nat.le_of_ble_eq_true rfl⟩) (q_mV (As := [.int (xs (x3 + 1).toNatClampNeg)]) hE hPc hDc (q0 := 10) (ci := 8) rfl rfl) rfl rfl hl.1 rfl (lv_room (Nat.le_of_ble_eq_true rfl)) dL_law_293 ⟨Nat.le_of_ble_eq_true rfl, Nat.le_of_ble_eq_true rfl⟩) hS hFc (fun H locs b34 hP1 hk hS => ?_)
        have hP : va_P D vwCl (wg5 cI cZ (dd 0) q33.2 ++ (wg4 cI cZ (dd 1) S1 ++ (wg3 (dd 2) (dd 3) (dd 4) S2 ++ (wg5 cI cZ (dd 3) S3 ++ (wg0 cI cZ (dd 4) S4 ++ (wg6 cI cZ (dd 5) S5 ++ (wg7 cI cZ (dd 6) S6 ++ (wg2 cI cZ (dd 7) S7 ++ (wg1 (dd 8) (dd 9) (dd 10) S8 ++ (wg5 cI cZ (dd 9) S9 ++ (wg7 cI cZ (dd 10) S10 ++ (wg1 (dd 11) (dd 12) (dd 13) S11 ++ (wg5 cI cZ (dd 12) S12 ++ (wg7 cI cZ (dd 13) S13 ++ (wg8 dd ++ (wgi cO dd ++ (wg9 cI cZ (dd 16) S16))))))))))))))))) H := (q_join (wr := (wg4 cI cZ (dd 1) S1 ++ (wg3 (dd 2) (dd 3) (dd 4) S2 ++ (wg5 cI cZ (dd 3) S3 ++ (wg0 cI cZ (dd 4) S4 ++ (wg6 cI cZ (dd 5) S5 ++ (wg7 cI cZ (dd 6) S6 ++ (wg2 cI cZ (dd 7) S7 ++ (wg1 (dd 8) (dd 9) (dd 10) S8 ++ (wg5 cI cZ (dd 9) S9 ++ (wg7 cI cZ (dd 10) S10 ++ (wg1 (dd 11) (dd 12) (dd 13) S11 ++ (wg5 cI cZ (dd 12) S12 ++ (wg7 cI cZ (dd 13) S13 ++ (wgi cO dd ++ (wg9 cI cZ (dd 16) S16)))))))))))))))) hP (hD S0 S1 S2 S3 S4 S5 S6 S7 S8 S9 S10 S11 S12 S13 S16) [0, 1, 2, 3, 4, 5, 6, 7, 8, 9, 64] [10, 11, 12, 13, 14, 15, 16, 17, 18, 19, 20, 21, 22, 23, 24, 25, 26, 27, 28, 29, 30, 31, 32, 33, 34, 35, 36, 37, 38, 39, 40, 41, 42, 43, 44, 45, 46, 47, 48, 49, 50, 51, 52, 53, 54, 55, 56, 57, 58, 59, 60, 61, 62, 63, 65, 66, 67, 68, 69, 70, 71, 72, 73, 74, 75, 76, 77, 78, 79, 80, 81, 82, 83, 84, 85, 86, 87, 88] rfl rfl (by decide) (by decide) hk hFc hP1 hDc rfl).sub [78, 79, 80, 81, 82, 83, 84, 85, 86, 87, 0, 1, 2, 3, 4, 5, 6, 7, 8, 9, 10, 11, 12, 13, 14, 15, 16, 17, 18, 19, 20, 21, 22, 23, 24, 25, 26, 27, 28, 29, 30, 31, 32, 33, 34, 35, 36, 37, 38, 39, 40, 41, 42, 43, 44, 45, 46, 47, 48, 49, 50, 51, 52, 53, 88, 54, 55, 56, 57, 58, 59, 60, 61, 62, 63, 64, 65, 66, 67, 68, 69, 70, 71, 72, 73, 74, 75, 76, 77] rfl
        refine lv_aload_n hx hb dL_law_296 rfl (lv_at hl 2 rfl) ?_
        refine lv_aload_n hx hb dL_law_297 rfl (lv_at hl 0 rfl) ?_
        refine lv_iload_n hx hb dL_law_298 rfl (lv_at hl 3 rfl) ?_
        refine lv_iconst (v := 1) hx hb dL_law_299 (by decide) ?_
        refine lv_iadd hx hb dL_law_300 ?_
        refine va_sld hx hb hX hbl hbA hS (q_in g32) dL_law_301 ?_
        obtain ⟨q35, hq35, ht⟩ := it_b ht
        have hPc : va_P D vwCl (wg9 cI cZ (dd 16) S16) H := hP.sub [66, 67, 68, 69, 70, 71, 72, 73, 74, 75, 76, 77, 78, 79, 80, 81, 82, 83, 84, 85, 86, 87, 88] rfl
        have hDc : va_D A (wg9 cI cZ (dd 16) S16) := ((hD q33.2 S1 S2 S3 S4 S5 S6 S7 S8 S9 S10 S11 S12 S13 S16)).sub [66, 67, 68, 69, 70, 71, 72, 73, 74, 75, 76, 77, 78, 79, 80, 81, 82, 83, 84, 85, 86, 87, 88] (by decide) rfl
        have hFc := va_free (wc := (wg9 cI cZ (dd 16) S16)) (hD q33.2 S1 S2 S3 S4 S5 S6 S7 S8 S9 S10 S11 S12 S13 S16) hS hA [66, 67, 68, 69, 70, 71, 72, 73, 74, 75, 76, 77, 78, 79, 80, 81, 82, 83, 84, 85, 86, 87, 88] rfl
        refine q_mi (va_runV (As := [.int (xs (x3 + 1).toNatClampNeg)]) (rest := [.int q33.1]) ⟨hx, hb, hml, hown, hts⟩ (kX9_melt l D cI cZ cO (dd 16) H.size S16 (xs (x3 + 1).toNatClampNeg) q35 hq35) (cwV 1 hts gL_law_X9_melt rfl rfl rfl (by decide +kernel) ⟨Nat.le_of_ble_eq_true rfl, Nat.le_of_ble_eq_true rfl⟩) (q_mV (As := [.int (xs (x3 + 1).toNatClampNeg)]) hE hPc hDc (q0 := 0) (ci := 9) rfl rfl) rfl rfl hl.1 rfl (lv_room (Nat.le_of_ble_eq_true rfl)) dL_law_302 ⟨Nat.le_of_ble_eq_true rfl, Nat.le_of_ble_eq_true rfl⟩) hS hFc (fun H locs b36 hP1 hk hS => ?_)
        have hP : va_P D vwCl (wg5 cI cZ (dd 0) q33.2 ++ (wg4 cI cZ (dd 1) S1 ++ (wg3 (dd 2) (dd 3) (dd 4) S2 ++ (wg5 cI cZ (dd 3) S3 ++ (wg0 cI cZ (dd 4) S4 ++ (wg6 cI cZ (dd 5) S5 ++ (wg7 cI cZ (dd 6) S6 ++ (wg2 cI cZ (dd 7) S7 ++ (wg1 (dd 8) (dd 9) (dd 10) S8 ++ (wg5 cI cZ (dd 9) S9 ++ (wg7 cI cZ (dd 10) S10 ++ (wg1 (dd 11) (dd 12) (dd 13) S11 ++ (wg5 cI cZ (dd 12) S12 ++ (wg7 cI cZ (dd 13) S13 ++ (wg8 dd ++ (wgi cO dd ++ (wg9 cI cZ (dd 16) q35.2))))))))))))))))) H := (q_join (wr := (wg5 cI cZ (dd 0) q33.2 ++ (wg4 cI cZ (dd 1) S1 ++ (wg3 (dd 2) (dd 3) (dd 4) S2 ++ (wg5 cI cZ (dd 3) S3 ++ (wg0 cI cZ (dd 4) S4 ++ (wg6 cI cZ (dd 5) S5 ++ (wg7 cI cZ (dd 6) S6 ++ (wg2 cI cZ (dd 7) S7 ++ (wg1 (dd 8) (dd 9) (dd 10) S8 ++ (wg5 cI cZ (dd 9) S9 ++ (wg7 cI cZ (dd 10) S10 ++ (wg1 (dd 11) (dd 12) (dd 13) S11 ++ (wg5 cI cZ (dd 12) S12 ++ (wg7 cI cZ (dd 13) S13 ++ (wg8 dd ++ (wgi cO dd))))))))))))))))) hP (hD q33.2 S1 S2 S3 S4 S5 S6 S7 S8 S9 S10 S11 S12 S13 S16) [66, 67, 68, 69, 70, 71, 72, 73, 74, 75, 76, 77, 78, 79, 80, 81, 82, 83, 84, 85, 86, 87, 88] [0, 1, 2, 3, 4, 5, 6, 7, 8, 9, 10, 11, 12, 13, 14, 15, 16, 17, 18, 19, 20, 21, 22, 23, 24, 25, 26, 27, 28, 29, 30, 31, 32, 33, 34, 35, 36, 37, 38, 39, 40, 41, 42, 43, 44, 45, 46, 47, 48, 49, 50, 51, 52, 53, 54, 55, 56, 57, 58, 59, 60, 61, 62, 63, 64, 65] rfl rfl (by decide) (by decide) hk hFc hP1 hDc rfl).sub [0, 1, 2, 3, 4, 5, 6, 7, 8, 9, 10, 11, 12, 13, 14, 15, 16, 17, 18, 19, 20, 21, 22, 23, 24, 25, 26, 27, 28, 29, 30, 31, 32, 33, 34, 35, 36, 37, 38, 39, 40, 41, 42, 43, 44, 45, 46, 47, 48, 49, 50, 51, 52, 53, 54, 55, 56, 57, 58, 59, 60, 61, 62, 63, 64, 65, 66, 67, 68, 69, 70, 71, 72, 73, 74, 75, 76, 77, 78, 79, 80, 81, 82, 83, 84, 85, 86, 87, 88] rfl
        refine lv_icmp_eq (tgt := 874) hx hb dL_law_305 (by decide) (fun c37 => ?_) (fun c37 => ?_)
        · have ht := it_p c37 ht
          refine lv_iinc (v := x3 + 5) (lv' := [(3, .int (x3 + 5)), (0, .ref b), (1, .ref (dd 14 0)), (2, .ref (dd 16 0))]) hx hb dL_law_874 hl (k := 3) rfl rfl (by decide) rfl (fun ls hl => ?_)
          refine lv_goto (tgt := 18) hx hb dL_law_877 (by decide) ?_
          exact ih18 (x3 + 5) q33.2 S1 S2 S3 S4 S5 S6 S7 S8 S9 S10 S11 S12 S13 q35.2 _ _ hP hS ls (lv_sub hl [1, 2, 3, 0] rfl) ht
        · have ht := it_n c37 ht
          refine lv_iconst (v := 0) hx hb dL_law_308 (by decide) ?_
          exact absurd (Option.some.inj ht) (by decide)
      have ht := it_n c31 ht
      by_cases c38 : (xs x3.toNatClampNeg) &&& 31 = 4
      · have ht := it_p c38 ht
        refine lv_tableIn (tgt := 310) hx hb dL_law_32 (by rw [c38]; decide) (by rw [c38]; decide) (by rw [c38]; rfl) (by decide) ?_
        refine lv_aload_n hx hb dL_law_310 rfl (lv_at hl 1 rfl) ?_
        refine lv_aload_n hx hb dL_law_311 rfl (lv_at hl 0 rfl) ?_
        refine lv_iload_n hx hb dL_law_312 rfl (lv_at hl 3 rfl) ?_
        refine lv_iconst (v := 1) hx hb dL_law_313 (by decide) ?_
        refine lv_iadd hx hb dL_law_314 ?_
        obtain ⟨g39, ht⟩ := it_g ht
        refine va_sld hx hb hX hbl hbA hS (q_in g39) dL_law_315 ?_
        obtain ⟨q40, hq40, ht⟩ := it_b ht
        have hPc : va_P D vwCl (wg4 cI cZ (dd 1) S1 ++ (wg8 dd)) H := hP.sub [10, 11, 64] rfl
        have hDc : va_D A (wg4 cI cZ (dd 1) S1 ++ (wg8 dd)) := ((hD S0 S1 S2 S3 S4 S5 S6 S7 S8 S9 S10 S11 S12 S13 S16)).sub [10, 11, 64] (by decide) rfl
        have hFc := va_free (wc := (wg4 cI cZ (dd 1) S1 ++ (wg8 dd))) (hD S0 S1 S2 S3 S4 S5 S6 S7 S8 S9 S10 S11 S12 S13 S16) hS hA [10, 11, 64] rfl
        refine q_mi (va_runV (As := [.int (xs (x3 + 1).toNatClampNeg)]) (rest := []) ⟨hx, hb, hml, hown, hts⟩ (kX8_say l D cI cZ cO dd H.size S1 (xs (x3 + 1).toNatClampNeg) q40 hq40) (cwV 1 hts gL_law_X8_say rfl rfl rfl (by decide +kernel) ⟨Nat.le_of_ble_eq_true rfl, Nat.le_of_ble_eq_true rfl⟩) (q_mV (As := [.int (xs (x3 + 1).toNatClampNeg)]) hE hPc hDc (q0 := 2) (ci := 8) rfl rfl) rfl rfl hl.1 rfl (lv_room (Nat.le_of_ble_eq_true rfl)) dL_law_316 ⟨Nat.le_of_ble_eq_true rfl, Nat.le_of_ble_eq_true rfl⟩) hS hFc (fun H locs b41 hP1 hk hS => ?_)
        have hP : va_P D vwCl (wg5 cI cZ (dd 0) S0 ++ (wg4 cI cZ (dd 1) q40.2 ++ (wg3 (dd 2) (dd 3) (dd 4) S2 ++ (wg5 cI cZ (dd 3) S3 ++ (wg0 cI cZ (dd 4) S4 ++ (wg6 cI cZ (dd 5) S5 ++ (wg7 cI cZ (dd 6) S6 ++ (wg2 cI cZ (dd 7) S7 ++ (wg1 (dd 8) (dd 9) (dd 10) S8 ++ (wg5 cI cZ (dd 9) S9 ++ (wg7 cI cZ (dd 10) S10 ++ (wg1 (dd 11) (dd 12) (dd 13) S11 ++ (wg5 cI cZ (dd 12) S12 ++ (wg7 cI cZ (dd 13) S13 ++ (wg8 dd ++ (wgi cO dd ++ (wg9 cI cZ (dd 16) S16))))))))))))))))) H := (q_join (wr := (wg5 cI cZ (dd 0) S0 ++ (wg3 (dd 2) (dd 3) (dd 4) S2 ++ (wg5 cI cZ (dd 3) S3 ++ (wg0 cI cZ (dd 4) S4 ++ (wg6 cI cZ (dd 5) S5 ++ (wg7 cI cZ (dd 6) S6 ++ (wg2 cI cZ (dd 7) S7 ++ (wg1 (dd 8) (dd 9) (dd 10) S8 ++ (wg5 cI cZ (dd 9) S9 ++ (wg7 cI cZ (dd 10) S10 ++ (wg1 (dd 11) (dd 12) (dd 13) S11 ++ (wg5 cI cZ (dd 12) S12 ++ (wg7 cI cZ (dd 13) S13 ++ (wgi cO dd ++ (wg9 cI cZ (dd 16) S16)))))))))))))))) hP (hD S0 S1 S2 S3 S4 S5 S6 S7 S8 S9 S10 S11 S12 S13 S16) [10, 11, 64] [0, 1, 2, 3, 4, 5, 6, 7, 8, 9, 12, 13, 14, 15, 16, 17, 18, 19, 20, 21, 22, 23, 24, 25, 26, 27, 28, 29, 30, 31, 32, 33, 34, 35, 36, 37, 38, 39, 40, 41, 42, 43, 44, 45, 46, 47, 48, 49, 50, 51, 52, 53, 54, 55, 56, 57, 58, 59, 60, 61, 62, 63, 65, 66, 67, 68, 69, 70, 71, 72, 73, 74, 75, 76, 77, 78, 79, 80, 81, 82, 83, 84, 85, 86, 87, 88] rfl rfl (by decide) (by decide) hk hFc hP1 hDc rfl).sub [0, 1, 2, 3, 4, 5, 6, 7, 8, 9, 86, 87, 10, 11, 12, 13, 14, 15, 16, 17, 18, 19, 20, 21, 22, 23, 24, 25, 26, 27, 28, 29, 30, 31, 32, 33, 34, 35, 36, 37, 38, 39, 40, 41, 42, 43, 44, 45, 46, 47, 48, 49, 50, 51, 52, 53, 54, 55, 56, 57, 58, 59, 60, 61, 88, 62, 63, 64, 65, 66, 67, 68, 69, 70, 71, 72, 73, 74, 75, 76, 77, 78, 79, 80, 81, 82, 83, 84, 85] rfl
        refine lv_aload_n hx hb dL_law_319 rfl (lv_at hl 2 rfl) ?_
        refine lv_aload_n hx hb dL_law_320 rfl (lv_at hl 0 rfl) ?_
        refine lv_iload_n hx hb dL_law_321 rfl (lv_at hl 3 rfl) ?_
        refine lv_iconst (v := 1) hx hb dL_law_322 (by decide) ?_
        refine lv_iadd hx hb dL_law_323 ?_
        refine va_sld hx hb hX hbl hbA hS (q_in g39) dL_law_324 ?_
        obtain ⟨q42, hq42, ht⟩ := it_b ht
        have hPc : va_P D vwCl (wg9 cI cZ (dd 16) S16) H := hP.sub [66, 67, 68, 69, 70, 71, 72, 73, 74, 75, 76, 77, 78, 79, 80, 81, 82, 83, 84, 85, 86, 87, 88] rfl
        have hDc : va_D A (wg9 cI cZ (dd 16) S16) := ((hD S0 q40.2 S2 S3 S4 S5 S6 S7 S8 S9 S10 S11 S12 S13 S16)).sub [66, 67, 68, 69, 70, 71, 72, 73, 74, 75, 76, 77, 78, 79, 80, 81, 82, 83, 84, 85, 86, 87, 88] (by decide) rfl
        have hFc := va_free (wc := (wg9 cI cZ (dd 16) S16)) (hD S0 q40.2 S2 S3 S4 S5 S6 S7 S8 S9 S10 S11 S12 S13 S16) hS hA [66, 67, 68, 69, 70, 71, 72, 73, 74, 75, 76, 77, 78, 79, 80, 81, 82, 83, 84, 85, 86, 87, 88] rfl
        refine q_mi (va_runV (As := [.int (xs (x3 + 1).toNatClampNeg)]) (rest := [.int q40.1]) ⟨hx, hb, hml, hown, hts⟩ (kX9_say l D cI cZ cO (dd 16) H.size S16 (xs (x3 + 1).toNatClampNeg) q42 hq42) (cwV 1 hts gL_law_X9_say rfl rfl rfl (by decide +kernel) ⟨Nat.le_of_ble_eq_true rfl, Nat.le_of_ble_eq_true rfl⟩) (q_mV (As := [.int (xs (x3 + 1).toNatClampNeg)]) hE hPc hDc (q0 := 0) (ci := 9) rfl rfl) rfl rfl hl.1 rfl (lv_room (Nat.le_of_ble_eq_true rfl)) dL_law_325 ⟨Nat.le_of_ble_eq_true rfl, Nat.le_of_ble_eq_true rfl⟩) hS hFc (fun H locs b43 hP1 hk hS => ?_)
        have hP : va_P D vwCl (wg5 cI cZ (dd 0) S0 ++ (wg4 cI cZ (dd 1) q40.2 ++ (wg3 (dd 2) (dd 3) (dd 4) S2 ++ (wg5 cI cZ (dd 3) S3 ++ (wg0 cI cZ (dd 4) S4 ++ (wg6 cI cZ (dd 5) S5 ++ (wg7 cI cZ (dd 6) S6 ++ (wg2 cI cZ (dd 7) S7 ++ (wg1 (dd 8) (dd 9) (dd 10) S8 ++ (wg5 cI cZ (dd 9) S9 ++ (wg7 cI cZ (dd 10) S10 ++ (wg1 (dd 11) (dd 12) (dd 13) S11 ++ (wg5 cI cZ (dd 12) S12 ++ (wg7 cI cZ (dd 13) S13 ++ (wg8 dd ++ (wgi cO dd ++ (wg9 cI cZ (dd 16) q42.2))))))))))))))))) H := (q_join (wr := (wg5 cI cZ (dd 0) S0 ++ (wg4 cI cZ (dd 1) q40.2 ++ (wg3 (dd 2) (dd 3) (dd 4) S2 ++ (wg5 cI cZ (dd 3) S3 ++ (wg0 cI cZ (dd 4) S4 ++ (wg6 cI cZ (dd 5) S5 ++ (wg7 cI cZ (dd 6) S6 ++ (wg2 cI cZ (dd 7) S7 ++ (wg1 (dd 8) (dd 9) (dd 10) S8 ++ (wg5 cI cZ (dd 9) S9 ++ (wg7 cI cZ (dd 10) S10 ++ (wg1 (dd 11) (dd 12) (dd 13) S11 ++ (wg5 cI cZ (dd 12) S12 ++ (wg7 cI cZ (dd 13) S13 ++ (wg8 dd ++ (wgi cO dd))))))))))))))))) hP (hD S0 q40.2 S2 S3 S4 S5 S6 S7 S8 S9 S10 S11 S12 S13 S16) [66, 67, 68, 69, 70, 71, 72, 73, 74, 75, 76, 77, 78, 79, 80, 81, 82, 83, 84, 85, 86, 87, 88] [0, 1, 2, 3, 4, 5, 6, 7, 8, 9, 10, 11, 12, 13, 14, 15, 16, 17, 18, 19, 20, 21, 22, 23, 24, 25, 26, 27, 28, 29, 30, 31, 32, 33, 34, 35, 36, 37, 38, 39, 40, 41, 42, 43, 44, 45, 46, 47, 48, 49, 50, 51, 52, 53, 54, 55, 56, 57, 58, 59, 60, 61, 62, 63, 64, 65] rfl rfl (by decide) (by decide) hk hFc hP1 hDc rfl).sub [0, 1, 2, 3, 4, 5, 6, 7, 8, 9, 10, 11, 12, 13, 14, 15, 16, 17, 18, 19, 20, 21, 22, 23, 24, 25, 26, 27, 28, 29, 30, 31, 32, 33, 34, 35, 36, 37, 38, 39, 40, 41, 42, 43, 44, 45, 46, 47, 48, 49, 50, 51, 52, 53, 54, 55, 56, 57, 58, 59, 60, 61, 62, 63, 64, 65, 66, 67, 68, 69, 70, 71, 72, 73, 74, 75, 76, 77, 78, 79, 80, 81, 82, 83, 84, 85, 86, 87, 88] rfl
        refine lv_icmp_eq (tgt := 874) hx hb dL_law_328 (by decide) (fun c44 => ?_) (fun c44 => ?_)
        · have ht := it_p c44 ht
          refine lv_iinc (v := x3 + 5) (lv' := [(3, .int (x3 + 5)), (0, .ref b), (1, .ref (dd 14 0)), (2, .ref (dd 16 0))]) hx hb dL_law_874 hl (k := 3) rfl rfl (by decide) rfl (fun ls hl => ?_)
          refine lv_goto (tgt := 18) hx hb dL_law_877 (by decide) ?_
          exact ih18 (x3 + 5) S0 q40.2 S2 S3 S4 S5 S6 S7 S8 S9 S10 S11 S12 S13 q42.2 _ _ hP hS ls (lv_sub hl [1, 2, 3, 0] rfl) ht
        · have ht := it_n c44 ht
          refine lv_iconst (v := 0) hx hb dL_law_331 (by decide) ?_
          exact absurd (Option.some.inj ht) (by decide)
      have ht := it_n c38 ht
      by_cases c45 : (xs x3.toNatClampNeg) &&& 31 = 5
      · have ht := it_p c45 ht
        refine lv_tableIn (tgt := 333) hx hb dL_law_32 (by rw [c45]; decide) (by rw [c45]; decide) (by rw [c45]; rfl) (by decide) ?_
        refine lv_aload_n hx hb dL_law_333 rfl (lv_at hl 1 rfl) ?_
        obtain ⟨q46, hq46, ht⟩ := it_b ht
        have hPc : va_P D vwCl (wg4 cI cZ (dd 1) S1 ++ (wg8 dd)) H := hP.sub [10, 11, 64] rfl
        have hDc : va_D A (wg4 cI cZ (dd 1) S1 ++ (wg8 dd)) := ((hD S0 S1 S2 S3 S4 S5 S6 S7 S8 S9 S10 S11 S12 S13 S16)).sub [10, 11, 64] (by decide) rfl
        have hFc := va_free (wc := (wg4 cI cZ (dd 1) S1 ++ (wg8 dd))) (hD S0 S1 S2 S3 S4 S5 S6 S7 S8 S9 S10 S11 S12 S13 S16) hS hA [10, 11, 64] rfl
        refine q_mi (va_runV (As := []) (rest := []) ⟨hx, hb, hml, hown, hts⟩ (kX8_wipe l D cI cZ cO dd H.size S1 q46 hq46) (cwV 0 hts gL_law_X8_wipe rfl rfl rfl (by decide +kernel) ⟨Nat.le_of_ble_eq_true rfl, Nat.le_of_ble_eq_true rfl⟩) (q_mV (As := []) hE hPc hDc (q0 := 2) (ci := 8) rfl rfl) rfl rfl hl.1 rfl (lv_room (Nat.le_of_ble_eq_true rfl)) dL_law_334 ⟨Nat.le_of_ble_eq_true rfl, Nat.le_of_ble_eq_true rfl⟩) hS hFc (fun H locs b47 hP1 hk hS => ?_)
        have hP : va_P D vwCl (wg5 cI cZ (dd 0) S0 ++ (wg4 cI cZ (dd 1) q46.2 ++ (wg3 (dd 2) (dd 3) (dd 4) S2 ++ (wg5 cI cZ (dd 3) S3 ++ (wg0 cI cZ (dd 4) S4 ++ (wg6 cI cZ (dd 5) S5 ++ (wg7 cI cZ (dd 6) S6 ++ (wg2 cI cZ (dd 7) S7 ++ (wg1 (dd 8) (dd 9) (dd 10) S8 ++ (wg5 cI cZ (dd 9) S9 ++ (wg7 cI cZ (dd 10) S10 ++ (wg1 (dd 11) (dd 12) (dd 13) S11 ++ (wg5 cI cZ (dd 12) S12 ++ (wg7 cI cZ (dd 13) S13 ++ (wg8 dd ++ (wgi cO dd ++ (wg9 cI cZ (dd 16) S16))))))))))))))))) H := (q_join (wr := (wg5 cI cZ (dd 0) S0 ++ (wg3 (dd 2) (dd 3) (dd 4) S2 ++ (wg5 cI cZ (dd 3) S3 ++ (wg0 cI cZ (dd 4) S4 ++ (wg6 cI cZ (dd 5) S5 ++ (wg7 cI cZ (dd 6) S6 ++ (wg2 cI cZ (dd 7) S7 ++ (wg1 (dd 8) (dd 9) (dd 10) S8 ++ (wg5 cI cZ (dd 9) S9 ++ (wg7 cI cZ (dd 10) S10 ++ (wg1 (dd 11) (dd 12) (dd 13) S11 ++ (wg5 cI cZ (dd 12) S12 ++ (wg7 cI cZ (dd 13) S13 ++ (wgi cO dd ++ (wg9 cI cZ (dd 16) S16)))))))))))))))) hP (hD S0 S1 S2 S3 S4 S5 S6 S7 S8 S9 S10 S11 S12 S13 S16) [10, 11, 64] [0, 1, 2, 3, 4, 5, 6, 7, 8, 9, 12, 13, 14, 15, 16, 17, 18, 19, 20, 21, 22, 23, 24, 25, 26, 27, 28, 29, 30, 31, 32, 33, 34, 35, 36, 37, 38, 39, 40, 41, 42, 43, 44, 45, 46, 47, 48, 49, 50, 51, 52, 53, 54, 55, 56, 57, 58, 59, 60, 61, 62, 63, 65, 66, 67, 68, 69, 70, 71, 72, 73, 74, 75, 76, 77, 78, 79, 80, 81, 82, 83, 84, 85, 86, 87, 88] rfl rfl (by decide) (by decide) hk hFc hP1 hDc rfl).sub [0, 1, 2, 3, 4, 5, 6, 7, 8, 9, 86, 87, 10, 11, 12, 13, 14, 15, 16, 17, 18, 19, 20, 21, 22, 23, 24, 25, 26, 27, 28, 29, 30, 31, 32, 33, 34, 35, 36, 37, 38, 39, 40, 41, 42, 43, 44, 45, 46, 47, 48, 49, 50, 51, 52, 53, 54, 55, 56, 57, 58, 59, 60, 61, 88, 62, 63, 64, 65, 66, 67, 68, 69, 70, 71, 72, 73, 74, 75, 76, 77, 78, 79, 80, 81, 82, 83, 84, 85] rfl
        refine lv_aload_n hx hb dL_law_337 rfl (lv_at hl 2 rfl) ?_
        obtain ⟨q48, hq48, ht⟩ := it_b ht
        have hPc : va_P D vwCl (wg9 cI cZ (dd 16) S16) H := hP.sub [66, 67, 68, 69, 70, 71, 72, 73, 74, 75, 76, 77, 78, 79, 80, 81, 82, 83, 84, 85, 86, 87, 88] rfl
        have hDc : va_D A (wg9 cI cZ (dd 16) S16) := ((hD S0 q46.2 S2 S3 S4 S5 S6 S7 S8 S9 S10 S11 S12 S13 S16)).sub [66, 67, 68, 69, 70, 71, 72, 73, 74, 75, 76, 77, 78, 79, 80, 81, 82, 83, 84, 85, 86, 87, 88] (by decide) rfl
        have hFc := va_free (wc := (wg9 cI cZ (dd 16) S16)) (hD S0 q46.2 S2 S3 S4 S5 S6 S7 S8 S9 S10 S11 S12 S13 S16) hS hA [66, 67, 68, 69, 70, 71, 72, 73, 74, 75, 76, 77, 78, 79, 80, 81, 82, 83, 84, 85, 86, 87, 88] rfl
        refine q_mi (va_runV (As := []) (rest := [.int q46.1]) ⟨hx, hb, hml, hown, hts⟩ (kX9_wipe l D cI cZ cO (dd 16) H.size S16 q48 hq48) (cwV 0 hts gL_law_X9_wipe rfl rfl rfl (by decide +kernel) ⟨Nat.le_of_ble_eq_true rfl, Nat.le_of_ble_eq_true rfl⟩) (q_mV (As := []) hE hPc hDc (q0 := 0) (ci := 9) rfl rfl) rfl rfl hl.1 rfl (lv_room (Nat.le_of_ble_eq_true rfl)) dL_law_338 ⟨Nat.le_of_ble_eq_true rfl, Nat.le_of_ble_eq_true rfl⟩) hS hFc (fun H locs b49 hP1 hk hS => ?_)
        have hP : va_P D vwCl (wg5 cI cZ (dd 0) S0 ++ (wg4 cI cZ (dd 1) q46.2 ++ (wg3 (dd 2) (dd 3) (dd 4) S2 ++ (wg5 cI cZ (dd 3) S3 ++ (wg0 cI cZ (dd 4) S4 ++ (wg6 cI cZ (dd 5) S5 ++ (wg7 cI cZ (dd 6) S6 ++ (wg2 cI cZ (dd 7) S7 ++ (wg1 (dd 8) (dd 9) (dd 10) S8 ++ (wg5 cI cZ (dd 9) S9 ++ (wg7 cI cZ (dd 10) S10 ++ (wg1 (dd 11) (dd 12) (dd 13) S11 ++ (wg5 cI cZ (dd 12) S12 ++ (wg7 cI cZ (dd 13) S13 ++ (wg8 dd ++ (wgi cO dd ++ (wg9 cI cZ (dd 16) q48.2))))))))))))))))) H := (q_join (wr := (wg5 cI cZ (dd 0) S0 ++ (wg4 cI cZ (dd 1) q46.2 ++ (wg3 (dd 2) (dd 3) (dd 4) S2 ++ (wg5 cI cZ (dd 3) S3 ++ (wg0 cI cZ (dd 4) S4 ++ (wg6 cI cZ (dd 5) S5 ++ (wg7 cI cZ (dd 6) S6 ++ (wg2 cI cZ (dd 7) S7 ++ (wg1 (dd 8) (dd 9) (dd 10) S8 ++ (wg5 cI cZ (dd 9) S9 ++ (wg7 cI cZ (dd 10) S10 ++ (wg1 (dd 11) (dd 12) (dd 13) S11 ++ (wg5 cI cZ (dd 12) S12 ++ (wg7 cI cZ (dd 13) S13 ++ (wg8 dd ++ (wgi cO dd))))))))))))))))) hP (hD S0 q46.2 S2 S3 S4 S5 S6 S7 S8 S9 S10 S11 S12 S13 S16) [66, 67, 68, 69, 70, 71, 72, 73, 74, 75, 76, 77, 78, 79, 80, 81, 82, 83, 84, 85, 86, 87, 88] [0, 1, 2, 3, 4, 5, 6, 7, 8, 9, 10, 11, 12, 13, 14, 15, 16, 17, 18, 19, 20, 21, 22, 23, 24, 25, 26, 27, 28, 29, 30, 31, 32, 33, 34, 35, 36, 37, 38, 39, 40, 41, 42, 43, 44, 45, 46, 47, 48, 49, 50, 51, 52, 53, 54, 55, 56, 57, 58, 59, 60, 61, 62, 63, 64, 65] rfl rfl (by decide) (by decide) hk hFc hP1 hDc rfl).sub [0, 1, 2, 3, 4, 5, 6, 7, 8, 9, 10, 11, 12, 13, 14, 15, 16, 17, 18, 19, 20, 21, 22, 23, 24, 25, 26, 27, 28, 29, 30, 31, 32, 33, 34, 35, 36, 37, 38, 39, 40, 41, 42, 43, 44, 45, 46, 47, 48, 49, 50, 51, 52, 53, 54, 55, 56, 57, 58, 59, 60, 61, 62, 63, 64, 65, 66, 67, 68, 69, 70, 71, 72, 73, 74, 75, 76, 77, 78, 79, 80, 81, 82, 83, 84, 85, 86, 87, 88] rfl
        refine lv_icmp_eq (tgt := 874) hx hb dL_law_341 (by decide) (fun c50 => ?_) (fun c50 => ?_)
        · have ht := it_p c50 ht
          refine lv_iinc (v := x3 + 5) (lv' := [(3, .int (x3 + 5)), (0, .ref b), (1, .ref (dd 14 0)), (2, .ref (dd 16 0))]) hx hb dL_law_874 hl (k := 3) rfl rfl (by decide) rfl (fun ls hl => ?_)
          refine lv_goto (tgt := 18) hx hb dL_law_877 (by decide) ?_
          exact ih18 (x3 + 5) S0 q46.2 S2 S3 S4 S5 S6 S7 S8 S9 S10 S11 S12 S13 q48.2 _ _ hP hS ls (lv_sub hl [1, 2, 3, 0] rfl) ht
        · have ht := it_n c50 ht
          refine lv_iconst (v := 0) hx hb dL_law_344 (by decide) ?_
          exact absurd (Option.some.inj ht) (by decide)
      have ht := it_n c45 ht
      by_cases c51 : (xs x3.toNatClampNeg) &&& 31 = 6
      · have ht := it_p c51 ht
        refine lv_tableIn (tgt := 346) hx hb dL_law_32 (by rw [c51]; decide) (by rw [c51]; decide) (by rw [c51]; rfl) (by decide) ?_
        refine lv_aload_n hx hb dL_law_346 rfl (lv_at hl 1 rfl) ?_
        obtain ⟨q52, hq52, ht⟩ := it_b ht
        have hPc : va_P D vwCl (wg4 cI cZ (dd 1) S1 ++ (wg8 dd)) H := hP.sub [10, 11, 64] rfl
        refine q_ri (va_runV (As := []) (rest := []) ⟨hx, hb, hml, hown, hts⟩ (kX8_fault l D cI cZ cO dd S1 q52 hq52) (cwV 0 hts gL_law_X8_fault rfl rfl rfl (by decide +kernel) ⟨Nat.le_of_ble_eq_true rfl, Nat.le_of_ble_eq_true rfl⟩) (q_rV (As := []) hE hPc (q0 := 2) (ci := 8) rfl rfl) rfl rfl hl.1 rfl (lv_room (Nat.le_of_ble_eq_true rfl)) dL_law_347 ⟨Nat.le_of_ble_eq_true rfl, Nat.le_of_ble_eq_true rfl⟩) (fun b53 => ?_)
        refine lv_aload_n hx hb dL_law_350 rfl (lv_at hl 2 rfl) ?_
        obtain ⟨q54, hq54, ht⟩ := it_b ht
        have hPc : va_P D vwCl (wg9 cI cZ (dd 16) S16) H := hP.sub [66, 67, 68, 69, 70, 71, 72, 73, 74, 75, 76, 77, 78, 79, 80, 81, 82, 83, 84, 85, 86, 87, 88] rfl
        have hDc : va_D A (wg9 cI cZ (dd 16) S16) := ((hD S0 S1 S2 S3 S4 S5 S6 S7 S8 S9 S10 S11 S12 S13 S16)).sub [66, 67, 68, 69, 70, 71, 72, 73, 74, 75, 76, 77, 78, 79, 80, 81, 82, 83, 84, 85, 86, 87, 88] (by decide) rfl
        have hFc := va_free (wc := (wg9 cI cZ (dd 16) S16)) (hD S0 S1 S2 S3 S4 S5 S6 S7 S8 S9 S10 S11 S12 S13 S16) hS hA [66, 67, 68, 69, 70, 71, 72, 73, 74, 75, 76, 77, 78, 79, 80, 81, 82, 83, 84, 85, 86, 87, 88] rfl
        refine q_mi (va_runV (As := []) (rest := [.int q52]) ⟨hx, hb, hml, hown, hts⟩ (kX9_fault l D cI cZ cO (dd 16) H.size S16 q54 hq54) (cwV 0 hts gL_law_X9_fault rfl rfl rfl (by decide +kernel) ⟨Nat.le_of_ble_eq_true rfl, Nat.le_of_ble_eq_true rfl⟩) (q_mV (As := []) hE hPc hDc (q0 := 0) (ci := 9) rfl rfl) rfl rfl hl.1 rfl (lv_room (Nat.le_of_ble_eq_true rfl)) dL_law_351 ⟨Nat.le_of_ble_eq_true rfl, Nat.le_of_ble_eq_true rfl⟩) hS hFc (fun H locs b55 hP1 hk hS => ?_)
        have hP : va_P D vwCl (wg5 cI cZ (dd 0) S0 ++ (wg4 cI cZ (dd 1) S1 ++ (wg3 (dd 2) (dd 3) (dd 4) S2 ++ (wg5 cI cZ (dd 3) S3 ++ (wg0 cI cZ (dd 4) S4 ++ (wg6 cI cZ (dd 5) S5 ++ (wg7 cI cZ (dd 6) S6 ++ (wg2 cI cZ (dd 7) S7 ++ (wg1 (dd 8) (dd 9) (dd 10) S8 ++ (wg5 cI cZ (dd 9) S9 ++ (wg7 cI cZ (dd 10) S10 ++ (wg1 (dd 11) (dd 12) (dd 13) S11 ++ (wg5 cI cZ (dd 12) S12 ++ (wg7 cI cZ (dd 13) S13 ++ (wg8 dd ++ (wgi cO dd ++ (wg9 cI cZ (dd 16) q54.2))))))))))))))))) H := (q_join (wr := (wg5 cI cZ (dd 0) S0 ++ (wg4 cI cZ (dd 1) S1 ++ (wg3 (dd 2) (dd 3) (dd 4) S2 ++ (wg5 cI cZ (dd 3) S3 ++ (wg0 cI cZ (dd 4) S4 ++ (wg6 cI cZ (dd 5) S5 ++ (wg7 cI cZ (dd 6) S6 ++ (wg2 cI cZ (dd 7) S7 ++ (wg1 (dd 8) (dd 9) (dd 10) S8 ++ (wg5 cI cZ (dd 9) S9 ++ (wg7 cI cZ (dd 10) S10 ++ (wg1 (dd 11) (dd 12) (dd 13) S11 ++ (wg5 cI cZ (dd 12) S12 ++ (wg7 cI cZ (dd 13) S13 ++ (wg8 dd ++ (wgi cO dd))))))))))))))))) hP (hD S0 S1 S2 S3 S4 S5 S6 S7 S8 S9 S10 S11 S12 S13 S16) [66, 67, 68, 69, 70, 71, 72, 73, 74, 75, 76, 77, 78, 79, 80, 81, 82, 83, 84, 85, 86, 87, 88] [0, 1, 2, 3, 4, 5, 6, 7, 8, 9, 10, 11, 12, 13, 14, 15, 16, 17, 18, 19, 20, 21, 22, 23, 24, 25, 26, 27, 28, 29, 30, 31, 32, 33, 34, 35, 36, 37, 38, 39, 40, 41, 42, 43, 44, 45, 46, 47, 48, 49, 50, 51, 52, 53, 54, 55, 56, 57, 58, 59, 60, 61, 62, 63, 64, 65] rfl rfl (by decide) (by decide) hk hFc hP1 hDc rfl).sub [0, 1, 2, 3, 4, 5, 6, 7, 8, 9, 10, 11, 12, 13, 14, 15, 16, 17, 18, 19, 20, 21, 22, 23, 24, 25, 26, 27, 28, 29, 30, 31, 32, 33, 34, 35, 36, 37, 38, 39, 40, 41, 42, 43, 44, 45, 46, 47, 48, 49, 50, 51, 52, 53, 54, 55, 56, 57, 58, 59, 60, 61, 62, 63, 64, 65, 66, 67, 68, 69, 70, 71, 72, 73, 74, 75, 76, 77, 78, 79, 80, 81, 82, 83, 84, 85, 86, 87, 88] rfl
        refine lv_icmp_eq (tgt := 874) hx hb dL_law_354 (by decide) (fun c56 => ?_) (fun c56 => ?_)
        · have ht := it_p c56 ht
          refine lv_iinc (v := x3 + 5) (lv' := [(3, .int (x3 + 5)), (0, .ref b), (1, .ref (dd 14 0)), (2, .ref (dd 16 0))]) hx hb dL_law_874 hl (k := 3) rfl rfl (by decide) rfl (fun ls hl => ?_)
          refine lv_goto (tgt := 18) hx hb dL_law_877 (by decide) ?_
          exact ih18 (x3 + 5) S0 S1 S2 S3 S4 S5 S6 S7 S8 S9 S10 S11 S12 S13 q54.2 _ _ hP hS ls (lv_sub hl [1, 2, 3, 0] rfl) ht
        · have ht := it_n c56 ht
          refine lv_iconst (v := 0) hx hb dL_law_357 (by decide) ?_
          exact absurd (Option.some.inj ht) (by decide)
      have ht := it_n c51 ht
      by_cases c57 : (xs x3.toNatClampNeg) &&& 31 = 7
      · have ht := it_p c57 ht
        refine lv_tableIn (tgt := 359) hx hb dL_law_32 (by rw [c57]; decide) (by rw [c57]; decide) (by rw [c57]; rfl) (by decide) ?_
        refine lv_aload_n hx hb dL_law_359 rfl (lv_at hl 1 rfl) ?_
        refine lv_aload_n hx hb dL_law_360 rfl (lv_at hl 0 rfl) ?_
        refine lv_iload_n hx hb dL_law_361 rfl (lv_at hl 3 rfl) ?_
        refine lv_iconst (v := 1) hx hb dL_law_362 (by decide) ?_
        refine lv_iadd hx hb dL_law_363 ?_
        obtain ⟨g58, ht⟩ := it_g ht
        refine va_sld hx hb hX hbl hbA hS (q_in g58) dL_law_364 ?_
        obtain ⟨q59, hq59, ht⟩ := it_b ht
        have hPc : va_P D vwCl (wg5 cI cZ (dd 0) S0 ++ (wg4 cI cZ (dd 1) S1 ++ (wg3 (dd 2) (dd 3) (dd 4) S2 ++ (wg5 cI cZ (dd 3) S3 ++ (wg0 cI cZ (dd 4) S4 ++ (wg8 dd)))))) H := hP.sub [0, 1, 2, 3, 4, 5, 6, 7, 8, 9, 10, 11, 12, 13, 14, 15, 16, 17, 18, 19, 20, 21, 22, 23, 64] rfl
        have hDc : va_D A (wg5 cI cZ (dd 0) S0 ++ (wg4 cI cZ (dd 1) S1 ++ (wg3 (dd 2) (dd 3) (dd 4) S2 ++ (wg5 cI cZ (dd 3) S3 ++ (wg0 cI cZ (dd 4) S4 ++ (wg8 dd)))))) := ((hD S0 S1 S2 S3 S4 S5 S6 S7 S8 S9 S10 S11 S12 S13 S16)).sub [0, 1, 2, 3, 4, 5, 6, 7, 8, 9, 10, 11, 12, 13, 14, 15, 16, 17, 18, 19, 20, 21, 22, 23, 64] (by decide) rfl
        have hFc := va_free (wc := (wg5 cI cZ (dd 0) S0 ++ (wg4 cI cZ (dd 1) S1 ++ (wg3 (dd 2) (dd 3) (dd 4) S2 ++ (wg5 cI cZ (dd 3) S3 ++ (wg0 cI cZ (dd 4) S4 ++ (wg8 dd))))))) (hD S0 S1 S2 S3 S4 S5 S6 S7 S8 S9 S10 S11 S12 S13 S16) hS hA [0, 1, 2, 3, 4, 5, 6, 7, 8, 9, 10, 11, 12, 13, 14, 15, 16, 17, 18, 19, 20, 21, 22, 23, 64] rfl
        refine q_mi (va_runV (As := [.int (xs (x3 + 1).toNatClampNeg)]) (rest := []) ⟨hx, hb, hml, hown, hts⟩ (kX8_judge l D cI cZ cO dd H.size S0 S1 S2 S3 S4 (xs (x3 + 1).toNatClampNeg) q59 hq59) (cwV 1 hts gL_law_X8_judge rfl rfl rfl (by decide +kernel) ⟨Nat.le_of_ble_eq_true rfl, Nat.le_of_ble_eq_true rfl⟩) (q_mV (As := [.int (xs (x3 + 1).toNatClampNeg)]) hE hPc hDc (q0 := 24) (ci := 8) rfl rfl) rfl rfl hl.1 rfl (lv_room (Nat.le_of_ble_eq_true rfl)) dL_law_365 ⟨Nat.le_of_ble_eq_true rfl, Nat.le_of_ble_eq_true rfl⟩) hS hFc (fun H locs b60 hP1 hk hS => ?_)
        have hP : va_P D vwCl (wg5 cI cZ (dd 0) S0 ++ (wg4 cI cZ (dd 1) S1 ++ (wg3 (dd 2) (dd 3) (dd 4) q59.2.1 ++ (wg5 cI cZ (dd 3) q59.2.2.1 ++ (wg0 cI cZ (dd 4) q59.2.2.2 ++ (wg6 cI cZ (dd 5) S5 ++ (wg7 cI cZ (dd 6) S6 ++ (wg2 cI cZ (dd 7) S7 ++ (wg1 (dd 8) (dd 9) (dd 10) S8 ++ (wg5 cI cZ (dd 9) S9 ++ (wg7 cI cZ (dd 10) S10 ++ (wg1 (dd 11) (dd 12) (dd 13) S11 ++ (wg5 cI cZ (dd 12) S12 ++ (wg7 cI cZ (dd 13) S13 ++ (wg8 dd ++ (wgi cO dd ++ (wg9 cI cZ (dd 16) S16))))))))))))))))) H := (q_join (wr := (wg6 cI cZ (dd 5) S5 ++ (wg7 cI cZ (dd 6) S6 ++ (wg2 cI cZ (dd 7) S7 ++ (wg1 (dd 8) (dd 9) (dd 10) S8 ++ (wg5 cI cZ (dd 9) S9 ++ (wg7 cI cZ (dd 10) S10 ++ (wg1 (dd 11) (dd 12) (dd 13) S11 ++ (wg5 cI cZ (dd 12) S12 ++ (wg7 cI cZ (dd 13) S13 ++ (wgi cO dd ++ (wg9 cI cZ (dd 16) S16)))))))))))) hP (hD S0 S1 S2 S3 S4 S5 S6 S7 S8 S9 S10 S11 S12 S13 S16) [0, 1, 2, 3, 4, 5, 6, 7, 8, 9, 10, 11, 12, 13, 14, 15, 16, 17, 18, 19, 20, 21, 22, 23, 64] [24, 25, 26, 27, 28, 29, 30, 31, 32, 33, 34, 35, 36, 37, 38, 39, 40, 41, 42, 43, 44, 45, 46, 47, 48, 49, 50, 51, 52, 53, 54, 55, 56, 57, 58, 59, 60, 61, 62, 63, 65, 66, 67, 68, 69, 70, 71, 72, 73, 74, 75, 76, 77, 78, 79, 80, 81, 82, 83, 84, 85, 86, 87, 88] rfl rfl (by decide) (by decide) hk hFc hP1 hDc rfl).sub [64, 65, 66, 67, 68, 69, 70, 71, 72, 73, 74, 75, 76, 77, 78, 79, 80, 81, 82, 83, 84, 85, 86, 87, 0, 1, 2, 3, 4, 5, 6, 7, 8, 9, 10, 11, 12, 13, 14, 15, 16, 17, 18, 19, 20, 21, 22, 23, 24, 25, 26, 27, 28, 29, 30, 31, 32, 33, 34, 35, 36, 37, 38, 39, 88, 40, 41, 42, 43, 44, 45, 46, 47, 48, 49, 50, 51, 52, 53, 54, 55, 56, 57, 58, 59, 60, 61, 62, 63] rfl
        refine lv_aload_n hx hb dL_law_368 rfl (lv_at hl 2 rfl) ?_
        refine lv_aload_n hx hb dL_law_369 rfl (lv_at hl 0 rfl) ?_
        refine lv_iload_n hx hb dL_law_370 rfl (lv_at hl 3 rfl) ?_
        refine lv_iconst (v := 1) hx hb dL_law_371 (by decide) ?_
        refine lv_iadd hx hb dL_law_372 ?_
        refine va_sld hx hb hX hbl hbA hS (q_in g58) dL_law_373 ?_
        obtain ⟨q61, hq61, ht⟩ := it_b ht
        have hPc : va_P D vwCl (wg9 cI cZ (dd 16) S16) H := hP.sub [66, 67, 68, 69, 70, 71, 72, 73, 74, 75, 76, 77, 78, 79, 80, 81, 82, 83, 84, 85, 86, 87, 88] rfl
        have hDc : va_D A (wg9 cI cZ (dd 16) S16) := ((hD S0 S1 q59.2.1 q59.2.2.1 q59.2.2.2 S5 S6 S7 S8 S9 S10 S11 S12 S13 S16)).sub [66, 67, 68, 69, 70, 71, 72, 73, 74, 75, 76, 77, 78, 79, 80, 81, 82, 83, 84, 85, 86, 87, 88] (by decide) rfl
        have hFc := va_free (wc := (wg9 cI cZ (dd 16) S16)) (hD S0 S1 q59.2.1 q59.2.2.1 q59.2.2.2 S5 S6 S7 S8 S9 S10 S11 S12 S13 S16) hS hA [66, 67, 68, 69, 70, 71, 72, 73, 74, 75, 76, 77, 78, 79, 80, 81, 82, 83, 84, 85, 86, 87, 88] rfl
        refine q_mi (va_runV (As := [.int (xs (x3 + 1).toNatClampNeg)]) (rest := [.int q59.1]) ⟨hx, hb, hml, hown, hts⟩ (kX9_judge l D cI cZ cO (dd 16) H.size S16 (xs (x3 + 1).toNatClampNeg) q61 hq61) (cwV 1 hts gL_law_X9_judge rfl rfl rfl (by decide +kernel) ⟨Nat.le_of_ble_eq_true rfl, Nat.le_of_ble_eq_true rfl⟩) (q_mV (As := [.int (xs (x3 + 1).toNatClampNeg)]) hE hPc hDc (q0 := 0) (ci := 9) rfl rfl) rfl rfl hl.1 rfl (lv_room (Nat.le_of_ble_eq_true rfl)) dL_law_374 ⟨Nat.le_of_ble_eq_true rfl, Nat.le_of_ble_eq_true rfl⟩) hS hFc (fun H locs b62 hP1 hk hS => ?_)
        have hP : va_P D vwCl (wg5 cI cZ (dd 0) S0 ++ (wg4 cI cZ (dd 1) S1 ++ (wg3 (dd 2) (dd 3) (dd 4) q59.2.1 ++ (wg5 cI cZ (dd 3) q59.2.2.1 ++ (wg0 cI cZ (dd 4) q59.2.2.2 ++ (wg6 cI cZ (dd 5) S5 ++ (wg7 cI cZ (dd 6) S6 ++ (wg2 cI cZ (dd 7) S7 ++ (wg1 (dd 8) (dd 9) (dd 10) S8 ++ (wg5 cI cZ (dd 9) S9 ++ (wg7 cI cZ (dd 10) S10 ++ (wg1 (dd 11) (dd 12) (dd 13) S11 ++ (wg5 cI cZ (dd 12) S12 ++ (wg7 cI cZ (dd 13) S13 ++ (wg8 dd ++ (wgi cO dd ++ (wg9 cI cZ (dd 16) q61.2))))))))))))))))) H := (q_join (wr := (wg5 cI cZ (dd 0) S0 ++ (wg4 cI cZ (dd 1) S1 ++ (wg3 (dd 2) (dd 3) (dd 4) q59.2.1 ++ (wg5 cI cZ (dd 3) q59.2.2.1 ++ (wg0 cI cZ (dd 4) q59.2.2.2 ++ (wg6 cI cZ (dd 5) S5 ++ (wg7 cI cZ (dd 6) S6 ++ (wg2 cI cZ (dd 7) S7 ++ (wg1 (dd 8) (dd 9) (dd 10) S8 ++ (wg5 cI cZ (dd 9) S9 ++ (wg7 cI cZ (dd 10) S10 ++ (wg1 (dd 11) (dd 12) (dd 13) S11 ++ (wg5 cI cZ (dd 12) S12 ++ (wg7 cI cZ (dd 13) S13 ++ (wg8 dd ++ (wgi cO dd))))))))))))))))) hP (hD S0 S1 q59.2.1 q59.2.2.1 q59.2.2.2 S5 S6 S7 S8 S9 S10 S11 S12 S13 S16) [66, 67, 68, 69, 70, 71, 72, 73, 74, 75, 76, 77, 78, 79, 80, 81, 82, 83, 84, 85, 86, 87, 88] [0, 1, 2, 3, 4, 5, 6, 7, 8, 9, 10, 11, 12, 13, 14, 15, 16, 17, 18, 19, 20, 21, 22, 23, 24, 25, 26, 27, 28, 29, 30, 31, 32, 33, 34, 35, 36, 37, 38, 39, 40, 41, 42, 43, 44, 45, 46, 47, 48, 49, 50, 51, 52, 53, 54, 55, 56, 57, 58, 59, 60, 61, 62, 63, 64, 65] rfl rfl (by decide) (by decide) hk hFc hP1 hDc rfl).sub [0, 1, 2, 3, 4, 5, 6, 7, 8, 9, 10, 11, 12, 13, 14, 15, 16, 17, 18, 19, 20, 21, 22, 23, 24, 25, 26, 27, 28, 29, 30, 31, 32, 33, 34, 35, 36, 37, 38, 39, 40, 41, 42, 43, 44, 45, 46, 47, 48, 49, 50, 51, 52, 53, 54, 55, 56, 57, 58, 59, 60, 61, 62, 63, 64, 65, 66, 67, 68, 69, 70, 71, 72, 73, 74, 75, 76, 77, 78, 79, 80, 81, 82, 83, 84, 85, 86, 87, 88] rfl
        refine lv_icmp_eq (tgt := 874) hx hb dL_law_377 (by decide) (fun c63 => ?_) (fun c63 => ?_)
        · have ht := it_p c63 ht
          refine lv_iinc (v := x3 + 5) (lv' := [(3, .int (x3 + 5)), (0, .ref b), (1, .ref (dd 14 0)), (2, .ref (dd 16 0))]) hx hb dL_law_874 hl (k := 3) rfl rfl (by decide) rfl (fun ls hl => ?_)
          refine lv_goto (tgt := 18) hx hb dL_law_877 (by decide) ?_
          exact ih18 (x3 + 5) S0 S1 q59.2.1 q59.2.2.1 q59.2.2.2 S5 S6 S7 S8 S9 S10 S11 S12 S13 q61.2 _ _ hP hS ls (lv_sub hl [1, 2, 3, 0] rfl) ht
        · have ht := it_n c63 ht
          refine lv_iconst (v := 0) hx hb dL_law_380 (by decide) ?_
          exact absurd (Option.some.inj ht) (by decide)
      have ht := it_n c57 ht
      by_cases c64 : (xs x3.toNatClampNeg) &&& 31 = 8
      · have ht := it_p c64 ht
        refine lv_tableIn (tgt := 382) hx hb dL_law_32 (by rw [c64]; decide) (by rw [c64]; decide) (by rw [c64]; rfl) (by decide) ?_
        refine lv_aload_n hx hb dL_law_382 rfl (lv_at hl 1 rfl) ?_
        refine lv_aload_n hx hb dL_law_383 rfl (lv_at hl 0 rfl) ?_
        refine lv_iload_n hx hb dL_law_384 rfl (lv_at hl 3 rfl) ?_
        refine lv_iconst (v := 1) hx hb dL_law_385 (by decide) ?_
        refine lv_iadd hx hb dL_law_386 ?_
        obtain ⟨g65, ht⟩ := it_g ht
        refine va_sld hx hb hX hbl hbA hS (q_in g65) dL_law_387 ?_
        refine lv_aload_n hx hb dL_law_388 rfl (lv_at hl 0 rfl) ?_
        refine lv_iload_n hx hb dL_law_389 rfl (lv_at hl 3 rfl) ?_
        refine lv_iconst (v := 2) hx hb dL_law_390 (by decide) ?_
        refine lv_iadd hx hb dL_law_391 ?_
        obtain ⟨g66, ht⟩ := it_g ht
        refine va_sld hx hb hX hbl hbA hS (q_in g66) dL_law_392 ?_
        obtain ⟨q67, hq67, ht⟩ := it_b ht
        have hPc : va_P D vwCl (wg5 cI cZ (dd 0) S0 ++ (wg4 cI cZ (dd 1) S1 ++ (wg3 (dd 2) (dd 3) (dd 4) S2 ++ (wg5 cI cZ (dd 3) S3 ++ (wg0 cI cZ (dd 4) S4 ++ (wg8 dd)))))) H := hP.sub [0, 1, 2, 3, 4, 5, 6, 7, 8, 9, 10, 11, 12, 13, 14, 15, 16, 17, 18, 19, 20, 21, 22, 23, 64] rfl
        have hDc : va_D A (wg5 cI cZ (dd 0) S0 ++ (wg4 cI cZ (dd 1) S1 ++ (wg3 (dd 2) (dd 3) (dd 4) S2 ++ (wg5 cI cZ (dd 3) S3 ++ (wg0 cI cZ (dd 4) S4 ++ (wg8 dd)))))) := ((hD S0 S1 S2 S3 S4 S5 S6 S7 S8 S9 S10 S11 S12 S13 S16)).sub [0, 1, 2, 3, 4, 5, 6, 7, 8, 9, 10, 11, 12, 13, 14, 15, 16, 17, 18, 19, 20, 21, 22, 23, 64] (by decide) rfl
        have hFc := va_free (wc := (wg5 cI cZ (dd 0) S0 ++ (wg4 cI cZ (dd 1) S1 ++ (wg3 (dd 2) (dd 3) (dd 4) S2 ++ (wg5 cI cZ (dd 3) S3 ++ (wg0 cI cZ (dd 4) S4 ++ (wg8 dd))))))) (hD S0 S1 S2 S3 S4 S5 S6 S7 S8 S9 S10 S11 S12 S13 S16) hS hA [0, 1, 2, 3, 4, 5, 6, 7, 8, 9, 10, 11, 12, 13, 14, 15, 16, 17, 18, 19, 20, 21, 22, 23, 64] rfl
        refine q_mi (va_runV (As := [.int (xs (x3 + 1).toNatClampNeg), .int (xs (x3 + 2).toNatClampNeg)]) (rest := []) ⟨hx, hb, hml, hown, hts⟩ (kX8_behind l D cI cZ cO dd H.size S0 S1 S2 S3 S4 (xs (x3 + 1).toNatClampNeg) (xs (x3 + 2).toNatClampNeg) q67 hq67) (cwV 2 hts gL_law_X8_behind rfl rfl rfl (by decide +kernel) ⟨Nat.le_of_ble_eq_true rfl, Nat.le_of_ble_eq_true rfl⟩) (q_mV (As := [.int (xs (x3 + 1).toNatClampNeg), .int (xs (x3 + 2).toNatClampNeg)]) hE hPc hDc (q0 := 24) (ci := 8) rfl rfl) rfl rfl hl.1 rfl (lv_room (Nat.le_of_ble_eq_true rfl)) dL_law_393 ⟨Nat.le_of_ble_eq_true rfl, Nat.le_of_ble_eq_true rfl⟩) hS hFc (fun H locs b68 hP1 hk hS => ?_)
        have hP : va_P D vwCl (wg5 cI cZ (dd 0) S0 ++ (wg4 cI cZ (dd 1) S1 ++ (wg3 (dd 2) (dd 3) (dd 4) q67.2.1 ++ (wg5 cI cZ (dd 3) q67.2.2.1 ++ (wg0 cI cZ (dd 4) q67.2.2.2 ++ (wg6 cI cZ (dd 5) S5 ++ (wg7 cI cZ (dd 6) S6 ++ (wg2 cI cZ (dd 7) S7 ++ (wg1 (dd 8) (dd 9) (dd 10) S8 ++ (wg5 cI cZ (dd 9) S9 ++ (wg7 cI cZ (dd 10) S10 ++ (wg1 (dd 11) (dd 12) (dd 13) S11 ++ (wg5 cI cZ (dd 12) S12 ++ (wg7 cI cZ (dd 13) S13 ++ (wg8 dd ++ (wgi cO dd ++ (wg9 cI cZ (dd 16) S16))))))))))))))))) H := (q_join (wr := (wg6 cI cZ (dd 5) S5 ++ (wg7 cI cZ (dd 6) S6 ++ (wg2 cI cZ (dd 7) S7 ++ (wg1 (dd 8) (dd 9) (dd 10) S8 ++ (wg5 cI cZ (dd 9) S9 ++ (wg7 cI cZ (dd 10) S10 ++ (wg1 (dd 11) (dd 12) (dd 13) S11 ++ (wg5 cI cZ (dd 12) S12 ++ (wg7 cI cZ (dd 13) S13 ++ (wgi cO dd ++ (wg9 cI cZ (dd 16) S16)))))))))))) hP (hD S0 S1 S2 S3 S4 S5 S6 S7 S8 S9 S10 S11 S12 S13 S16) [0, 1, 2, 3, 4, 5, 6, 7, 8, 9, 10, 11, 12, 13, 14, 15, 16, 17, 18, 19, 20, 21, 22, 23, 64] [24, 25, 26, 27, 28, 29, 30, 31, 32, 33, 34, 35, 36, 37, 38, 39, 40, 41, 42, 43, 44, 45, 46, 47, 48, 49, 50, 51, 52, 53, 54, 55, 56, 57, 58, 59, 60, 61, 62, 63, 65, 66, 67, 68, 69, 70, 71, 72, 73, 74, 75, 76, 77, 78, 79, 80, 81, 82, 83, 84, 85, 86, 87, 88] rfl rfl (by decide) (by decide) hk hFc hP1 hDc rfl).sub [64, 65, 66, 67, 68, 69, 70, 71, 72, 73, 74, 75, 76, 77, 78, 79, 80, 81, 82, 83, 84, 85, 86, 87, 0, 1, 2, 3, 4, 5, 6, 7, 8, 9, 10, 11, 12, 13, 14, 15, 16, 17, 18, 19, 20, 21, 22, 23, 24, 25, 26, 27, 28, 29, 30, 31, 32, 33, 34, 35, 36, 37, 38, 39, 88, 40, 41, 42, 43, 44, 45, 46, 47, 48, 49, 50, 51, 52, 53, 54, 55, 56, 57, 58, 59, 60, 61, 62, 63] rfl
        refine lv_aload_n hx hb dL_law_396 rfl (lv_at hl 2 rfl) ?_
        refine lv_aload_n hx hb dL_law_397 rfl (lv_at hl 0 rfl) ?_
        refine lv_iload_n hx hb dL_law_398 rfl (lv_at hl 3 rfl) ?_
        refine lv_iconst (v := 1) hx hb dL_law_399 (by decide) ?_
        refine lv_iadd hx hb dL_law_400 ?_
        refine va_sld hx hb hX hbl hbA hS (q_in g65) dL_law_401 ?_
        refine lv_aload_n hx hb dL_law_402 rfl (lv_at hl 0 rfl) ?_
        refine lv_iload_n hx hb dL_law_403 rfl (lv_at hl 3 rfl) ?_
        refine lv_iconst (v := 2) hx hb dL_law_404 (by decide) ?_
        refine lv_iadd hx hb dL_law_405 ?_
        refine va_sld hx hb hX hbl hbA hS (q_in g66) dL_law_406 ?_
        obtain ⟨q69, hq69, ht⟩ := it_b ht
        have hPc : va_P D vwCl (wg9 cI cZ (dd 16) S16) H := hP.sub [66, 67, 68, 69, 70, 71, 72, 73, 74, 75, 76, 77, 78, 79, 80, 81, 82, 83, 84, 85, 86, 87, 88] rfl
        have hDc : va_D A (wg9 cI cZ (dd 16) S16) := ((hD S0 S1 q67.2.1 q67.2.2.1 q67.2.2.2 S5 S6 S7 S8 S9 S10 S11 S12 S13 S16)).sub [66, 67, 68, 69, 70, 71, 72, 73, 74, 75, 76, 77, 78, 79, 80, 81, 82, 83, 84, 85, 86, 87, 88] (by decide) rfl
        have hFc := va_free (wc := (wg9 cI cZ (dd 16) S16)) (hD S0 S1 q67.2.1 q67.2.2.1 q67.2.2.2 S5 S6 S7 S8 S9 S10 S11 S12 S13 S16) hS hA [66, 67, 68, 69, 70, 71, 72, 73, 74, 75, 76, 77, 78, 79, 80, 81, 82, 83, 84, 85, 86, 87, 88] rfl
        refine q_mi (va_runV (As := [.int (xs (x3 + 1).toNatClampNeg), .int (xs (x3 + 2).toNatClampNeg)]) (rest := [.int q67.1]) ⟨hx, hb, hml, hown, hts⟩ (kX9_behind l D cI cZ cO (dd 16) H.size S16 (xs (x3 + 1).toNatClampNeg) (xs (x3 + 2).toNatClampNeg) q69 hq69) (cwV 2 hts gL_law_X9_behind rfl rfl rfl (by decide +kernel) ⟨Nat.le_of_ble_eq_true rfl, Nat.le_of_ble_eq_true rfl⟩) (q_mV (As := [.int (xs (x3 + 1).toNatClampNeg), .int (xs (x3 + 2).toNatClampNeg)]) hE hPc hDc (q0 := 0) (ci := 9) rfl rfl) rfl rfl hl.1 rfl (lv_room (Nat.le_of_ble_eq_true rfl)) dL_law_407 ⟨Nat.le_of_ble_eq_true rfl, Nat.le_of_ble_eq_true rfl⟩) hS hFc (fun H locs b70 hP1 hk hS => ?_)
        have hP : va_P D vwCl (wg5 cI cZ (dd 0) S0 ++ (wg4 cI cZ (dd 1) S1 ++ (wg3 (dd 2) (dd 3) (dd 4) q67.2.1 ++ (wg5 cI cZ (dd 3) q67.2.2.1 ++ (wg0 cI cZ (dd 4) q67.2.2.2 ++ (wg6 cI cZ (dd 5) S5 ++ (wg7 cI cZ (dd 6) S6 ++ (wg2 cI cZ (dd 7) S7 ++ (wg1 (dd 8) (dd 9) (dd 10) S8 ++ (wg5 cI cZ (dd 9) S9 ++ (wg7 cI cZ (dd 10) S10 ++ (wg1 (dd 11) (dd 12) (dd 13) S11 ++ (wg5 cI cZ (dd 12) S12 ++ (wg7 cI cZ (dd 13) S13 ++ (wg8 dd ++ (wgi cO dd ++ (wg9 cI cZ (dd 16) q69.2))))))))))))))))) H := (q_join (wr := (wg5 cI cZ (dd 0) S0 ++ (wg4 cI cZ (dd 1) S1 ++ (wg3 (dd 2) (dd 3) (dd 4) q67.2.1 ++ (wg5 cI cZ (dd 3) q67.2.2.1 ++ (wg0 cI cZ (dd 4) q67.2.2.2 ++ (wg6 cI cZ (dd 5) S5 ++ (wg7 cI cZ (dd 6) S6 ++ (wg2 cI cZ (dd 7) S7 ++ (wg1 (dd 8) (dd 9) (dd 10) S8 ++ (wg5 cI cZ (dd 9) S9 ++ (wg7 cI cZ (dd 10) S10 ++ (wg1 (dd 11) (dd 12) (dd 13) S11 ++ (wg5 cI cZ (dd 12) S12 ++ (wg7 cI cZ (dd 13) S13 ++ (wg8 dd ++ (wgi cO dd))))))))))))))))) hP (hD S0 S1 q67.2.1 q67.2.2.1 q67.2.2.2 S5 S6 S7 S8 S9 S10 S11 S12 S13 S16) [66, 67, 68, 69, 70, 71, 72, 73, 74, 75, 76, 77, 78, 79, 80, 81, 82, 83, 84, 85, 86, 87, 88] [0, 1, 2, 3, 4, 5, 6, 7, 8, 9, 10, 11, 12, 13, 14, 15, 16, 17, 18, 19, 20, 21, 22, 23, 24, 25, 26, 27, 28, 29, 30, 31, 32, 33, 34, 35, 36, 37, 38, 39, 40, 41, 42, 43, 44, 45, 46, 47, 48, 49, 50, 51, 52, 53, 54, 55, 56, 57, 58, 59, 60, 61, 62, 63, 64, 65] rfl rfl (by decide) (by decide) hk hFc hP1 hDc rfl).sub [0, 1, 2, 3, 4, 5, 6, 7, 8, 9, 10, 11, 12, 13, 14, 15, 16, 17, 18, 19, 20, 21, 22, 23, 24, 25, 26, 27, 28, 29, 30, 31, 32, 33, 34, 35, 36, 37, 38, 39, 40, 41, 42, 43, 44, 45, 46, 47, 48, 49, 50, 51, 52, 53, 54, 55, 56, 57, 58, 59, 60, 61, 62, 63, 64, 65, 66, 67, 68, 69, 70, 71, 72, 73, 74, 75, 76, 77, 78, 79, 80, 81, 82, 83, 84, 85, 86, 87, 88] rfl
        refine lv_icmp_eq (tgt := 874) hx hb dL_law_410 (by decide) (fun c71 => ?_) (fun c71 => ?_)
        · have ht := it_p c71 ht
          refine lv_iinc (v := x3 + 5) (lv' := [(3, .int (x3 + 5)), (0, .ref b), (1, .ref (dd 14 0)), (2, .ref (dd 16 0))]) hx hb dL_law_874 hl (k := 3) rfl rfl (by decide) rfl (fun ls hl => ?_)
          refine lv_goto (tgt := 18) hx hb dL_law_877 (by decide) ?_
          exact ih18 (x3 + 5) S0 S1 q67.2.1 q67.2.2.1 q67.2.2.2 S5 S6 S7 S8 S9 S10 S11 S12 S13 q69.2 _ _ hP hS ls (lv_sub hl [1, 2, 3, 0] rfl) ht
        · have ht := it_n c71 ht
          refine lv_iconst (v := 0) hx hb dL_law_413 (by decide) ?_
          exact absurd (Option.some.inj ht) (by decide)
      have ht := it_n c64 ht
      by_cases c72 : (xs x3.toNatClampNeg) &&& 31 = 9
      · have ht := it_p c72 ht
        refine lv_tableIn (tgt := 415) hx hb dL_law_32 (by rw [c72]; decide) (by rw [c72]; decide) (by rw [c72]; rfl) (by decide) ?_
        refine lv_aload_n hx hb dL_law_415 rfl (lv_at hl 1 rfl) ?_
        refine lv_aload_n hx hb dL_law_416 rfl (lv_at hl 0 rfl) ?_
        refine lv_iload_n hx hb dL_law_417 rfl (lv_at hl 3 rfl) ?_
        refine lv_iconst (v := 1) hx hb dL_law_418 (by decide) ?_
        refine lv_iadd hx hb dL_law_419 ?_
        obtain ⟨g73, ht⟩ := it_g ht
        refine va_sld hx hb hX hbl hbA hS (q_in g73) dL_law_420 ?_
        refine lv_aload_n hx hb dL_law_421 rfl (lv_at hl 0 rfl) ?_
        refine lv_iload_n hx hb dL_law_422 rfl (lv_at hl 3 rfl) ?_
        refine lv_iconst (v := 2) hx hb dL_law_423 (by decide) ?_
        refine lv_iadd hx hb dL_law_424 ?_
        obtain ⟨g74, ht⟩ := it_g ht
        refine va_sld hx hb hX hbl hbA hS (q_in g74) dL_law_425 ?_
        obtain ⟨q75, hq75, ht⟩ := it_b ht
        have hPc : va_P D vwCl (wg5 cI cZ (dd 0) S0 ++ (wg4 cI cZ (dd 1) S1 ++ (wg3 (dd 2) (dd 3) (dd 4) S2 ++ (wg5 cI cZ (dd 3) S3 ++ (wg0 cI cZ (dd 4) S4 ++ (wg8 dd)))))) H := hP.sub [0, 1, 2, 3, 4, 5, 6, 7, 8, 9, 10, 11, 12, 13, 14, 15, 16, 17, 18, 19, 20, 21, 22, 23, 64] rfl
        have hDc : va_D A (wg5 cI cZ (dd 0) S0 ++ (wg4 cI cZ (dd 1) S1 ++ (wg3 (dd 2) (dd 3) (dd 4) S2 ++ (wg5 cI cZ (dd 3) S3 ++ (wg0 cI cZ (dd 4) S4 ++ (wg8 dd)))))) := ((hD S0 S1 S2 S3 S4 S5 S6 S7 S8 S9 S10 S11 S12 S13 S16)).sub [0, 1, 2, 3, 4, 5, 6, 7, 8, 9, 10, 11, 12, 13, 14, 15, 16, 17, 18, 19, 20, 21, 22, 23, 64] (by decide) rfl
        have hFc := va_free (wc := (wg5 cI cZ (dd 0) S0 ++ (wg4 cI cZ (dd 1) S1 ++ (wg3 (dd 2) (dd 3) (dd 4) S2 ++ (wg5 cI cZ (dd 3) S3 ++ (wg0 cI cZ (dd 4) S4 ++ (wg8 dd))))))) (hD S0 S1 S2 S3 S4 S5 S6 S7 S8 S9 S10 S11 S12 S13 S16) hS hA [0, 1, 2, 3, 4, 5, 6, 7, 8, 9, 10, 11, 12, 13, 14, 15, 16, 17, 18, 19, 20, 21, 22, 23, 64] rfl
        refine q_mi (va_runV (As := [.int (xs (x3 + 1).toNatClampNeg), .int (xs (x3 + 2).toNatClampNeg)]) (rest := []) ⟨hx, hb, hml, hown, hts⟩ (kX8_reads l D cI cZ cO dd H.size S0 S1 S2 S3 S4 (xs (x3 + 1).toNatClampNeg) (xs (x3 + 2).toNatClampNeg) q75 hq75) (cwV 2 hts gL_law_X8_reads rfl rfl rfl (by decide +kernel) ⟨Nat.le_of_ble_eq_true rfl, Nat.le_of_ble_eq_true rfl⟩) (q_mV (As := [.int (xs (x3 + 1).toNatClampNeg), .int (xs (x3 + 2).toNatClampNeg)]) hE hPc hDc (q0 := 24) (ci := 8) rfl rfl) rfl rfl hl.1 rfl (lv_room (Nat.le_of_ble_eq_true rfl)) dL_law_426 ⟨Nat.le_of_ble_eq_true rfl, Nat.le_of_ble_eq_true rfl⟩) hS hFc (fun H locs b76 hP1 hk hS => ?_)
        have hP : va_P D vwCl (wg5 cI cZ (dd 0) S0 ++ (wg4 cI cZ (dd 1) S1 ++ (wg3 (dd 2) (dd 3) (dd 4) q75.2.1 ++ (wg5 cI cZ (dd 3) q75.2.2.1 ++ (wg0 cI cZ (dd 4) q75.2.2.2 ++ (wg6 cI cZ (dd 5) S5 ++ (wg7 cI cZ (dd 6) S6 ++ (wg2 cI cZ (dd 7) S7 ++ (wg1 (dd 8) (dd 9) (dd 10) S8 ++ (wg5 cI cZ (dd 9) S9 ++ (wg7 cI cZ (dd 10) S10 ++ (wg1 (dd 11) (dd 12) (dd 13) S11 ++ (wg5 cI cZ (dd 12) S12 ++ (wg7 cI cZ (dd 13) S13 ++ (wg8 dd ++ (wgi cO dd ++ (wg9 cI cZ (dd 16) S16))))))))))))))))) H := (q_join (wr := (wg6 cI cZ (dd 5) S5 ++ (wg7 cI cZ (dd 6) S6 ++ (wg2 cI cZ (dd 7) S7 ++ (wg1 (dd 8) (dd 9) (dd 10) S8 ++ (wg5 cI cZ (dd 9) S9 ++ (wg7 cI cZ (dd 10) S10 ++ (wg1 (dd 11) (dd 12) (dd 13) S11 ++ (wg5 cI cZ (dd 12) S12 ++ (wg7 cI cZ (dd 13) S13 ++ (wgi cO dd ++ (wg9 cI cZ (dd 16) S16)))))))))))) hP (hD S0 S1 S2 S3 S4 S5 S6 S7 S8 S9 S10 S11 S12 S13 S16) [0, 1, 2, 3, 4, 5, 6, 7, 8, 9, 10, 11, 12, 13, 14, 15, 16, 17, 18, 19, 20, 21, 22, 23, 64] [24, 25, 26, 27, 28, 29, 30, 31, 32, 33, 34, 35, 36, 37, 38, 39, 40, 41, 42, 43, 44, 45, 46, 47, 48, 49, 50, 51, 52, 53, 54, 55, 56, 57, 58, 59, 60, 61, 62, 63, 65, 66, 67, 68, 69, 70, 71, 72, 73, 74, 75, 76, 77, 78, 79, 80, 81, 82, 83, 84, 85, 86, 87, 88] rfl rfl (by decide) (by decide) hk hFc hP1 hDc rfl).sub [64, 65, 66, 67, 68, 69, 70, 71, 72, 73, 74, 75, 76, 77, 78, 79, 80, 81, 82, 83, 84, 85, 86, 87, 0, 1, 2, 3, 4, 5, 6, 7, 8, 9, 10, 11, 12, 13, 14, 15, 16, 17, 18, 19, 20, 21, 22, 23, 24, 25, 26, 27, 28, 29, 30, 31, 32, 33, 34, 35, 36, 37, 38, 39, 88, 40, 41, 42, 43, 44, 45, 46, 47, 48, 49, 50, 51, 52, 53, 54, 55, 56, 57, 58, 59, 60, 61, 62, 63] rfl
        refine lv_aload_n hx hb dL_law_429 rfl (lv_at hl 2 rfl) ?_
        refine lv_aload_n hx hb dL_law_430 rfl (lv_at hl 0 rfl) ?_
        refine lv_iload_n hx hb dL_law_431 rfl (lv_at hl 3 rfl) ?_
        refine lv_iconst (v := 1) hx hb dL_law_432 (by decide) ?_
        refine lv_iadd hx hb dL_law_433 ?_
        refine va_sld hx hb hX hbl hbA hS (q_in g73) dL_law_434 ?_
        refine lv_aload_n hx hb dL_law_435 rfl (lv_at hl 0 rfl) ?_
        refine lv_iload_n hx hb dL_law_436 rfl (lv_at hl 3 rfl) ?_
        refine lv_iconst (v := 2) hx hb dL_law_437 (by decide) ?_
        refine lv_iadd hx hb dL_law_438 ?_
        refine va_sld hx hb hX hbl hbA hS (q_in g74) dL_law_439 ?_
        obtain ⟨q77, hq77, ht⟩ := it_b ht
        have hPc : va_P D vwCl (wg9 cI cZ (dd 16) S16) H := hP.sub [66, 67, 68, 69, 70, 71, 72, 73, 74, 75, 76, 77, 78, 79, 80, 81, 82, 83, 84, 85, 86, 87, 88] rfl
        have hDc : va_D A (wg9 cI cZ (dd 16) S16) := ((hD S0 S1 q75.2.1 q75.2.2.1 q75.2.2.2 S5 S6 S7 S8 S9 S10 S11 S12 S13 S16)).sub [66, 67, 68, 69, 70, 71, 72, 73, 74, 75, 76, 77, 78, 79, 80, 81, 82, 83, 84, 85, 86, 87, 88] (by decide) rfl
        have hFc := va_free (wc := (wg9 cI cZ (dd 16) S16)) (hD S0 S1 q75.2.1 q75.2.2.1 q75.2.2.2 S5 S6 S7 S8 S9 S10 S11 S12 S13 S16) hS hA [66, 67, 68, 69, 70, 71, 72, 73, 74, 75, 76, 77, 78, 79, 80, 81, 82, 83, 84, 85, 86, 87, 88] rfl
        refine q_mi (va_runV (As := [.int (xs (x3 + 1).toNatClampNeg), .int (xs (x3 + 2).toNatClampNeg)]) (rest := [.int q75.1]) ⟨hx, hb, hml, hown, hts⟩ (kX9_reads l D cI cZ cO (dd 16) H.size S16 (xs (x3 + 1).toNatClampNeg) (xs (x3 + 2).toNatClampNeg) q77 hq77) (cwV 2 hts gL_law_X9_reads rfl rfl rfl (by decide +kernel) ⟨Nat.le_of_ble_eq_true rfl, Nat.le_of_ble_eq_true rfl⟩) (q_mV (As := [.int (xs (x3 + 1).toNatClampNeg), .int (xs (x3 + 2).toNatClampNeg)]) hE hPc hDc (q0 := 0) (ci := 9) rfl rfl) rfl rfl hl.1 rfl (lv_room (Nat.le_of_ble_eq_true rfl)) dL_law_440 ⟨Nat.le_of_ble_eq_true rfl, Nat.le_of_ble_eq_true rfl⟩) hS hFc (fun H locs b78 hP1 hk hS => ?_)
        have hP : va_P D vwCl (wg5 cI cZ (dd 0) S0 ++ (wg4 cI cZ (dd 1) S1 ++ (wg3 (dd 2) (dd 3) (dd 4) q75.2.1 ++ (wg5 cI cZ (dd 3) q75.2.2.1 ++ (wg0 cI cZ (dd 4) q75.2.2.2 ++ (wg6 cI cZ (dd 5) S5 ++ (wg7 cI cZ (dd 6) S6 ++ (wg2 cI cZ (dd 7) S7 ++ (wg1 (dd 8) (dd 9) (dd 10) S8 ++ (wg5 cI cZ (dd 9) S9 ++ (wg7 cI cZ (dd 10) S10 ++ (wg1 (dd 11) (dd 12) (dd 13) S11 ++ (wg5 cI cZ (dd 12) S12 ++ (wg7 cI cZ (dd 13) S13 ++ (wg8 dd ++ (wgi cO dd ++ (wg9 cI cZ (dd 16) q77.2))))))))))))))))) H := (q_join (wr := (wg5 cI cZ (dd 0) S0 ++ (wg4 cI cZ (dd 1) S1 ++ (wg3 (dd 2) (dd 3) (dd 4) q75.2.1 ++ (wg5 cI cZ (dd 3) q75.2.2.1 ++ (wg0 cI cZ (dd 4) q75.2.2.2 ++ (wg6 cI cZ (dd 5) S5 ++ (wg7 cI cZ (dd 6) S6 ++ (wg2 cI cZ (dd 7) S7 ++ (wg1 (dd 8) (dd 9) (dd 10) S8 ++ (wg5 cI cZ (dd 9) S9 ++ (wg7 cI cZ (dd 10) S10 ++ (wg1 (dd 11) (dd 12) (dd 13) S11 ++ (wg5 cI cZ (dd 12) S12 ++ (wg7 cI cZ (dd 13) S13 ++ (wg8 dd ++ (wgi cO dd))))))))))))))))) hP (hD S0 S1 q75.2.1 q75.2.2.1 q75.2.2.2 S5 S6 S7 S8 S9 S10 S11 S12 S13 S16) [66, 67, 68, 69, 70, 71, 72, 73, 74, 75, 76, 77, 78, 79, 80, 81, 82, 83, 84, 85, 86, 87, 88] [0, 1, 2, 3, 4, 5, 6, 7, 8, 9, 10, 11, 12, 13, 14, 15, 16, 17, 18, 19, 20, 21, 22, 23, 24, 25, 26, 27, 28, 29, 30, 31, 32, 33, 34, 35, 36, 37, 38, 39, 40, 41, 42, 43, 44, 45, 46, 47, 48, 49, 50, 51, 52, 53, 54, 55, 56, 57, 58, 59, 60, 61, 62, 63, 64, 65] rfl rfl (by decide) (by decide) hk hFc hP1 hDc rfl).sub [0, 1, 2, 3, 4, 5, 6, 7, 8, 9, 10, 11, 12, 13, 14, 15, 16, 17, 18, 19, 20, 21, 22, 23, 24, 25, 26, 27, 28, 29, 30, 31, 32, 33, 34, 35, 36, 37, 38, 39, 40, 41, 42, 43, 44, 45, 46, 47, 48, 49, 50, 51, 52, 53, 54, 55, 56, 57, 58, 59, 60, 61, 62, 63, 64, 65, 66, 67, 68, 69, 70, 71, 72, 73, 74, 75, 76, 77, 78, 79, 80, 81, 82, 83, 84, 85, 86, 87, 88] rfl
        refine lv_icmp_eq (tgt := 874) hx hb dL_law_443 (by decide) (fun c79 => ?_) (fun c79 => ?_)
        · have ht := it_p c79 ht
          refine lv_iinc (v := x3 + 5) (lv' := [(3, .int (x3 + 5)), (0, .ref b), (1, .ref (dd 14 0)), (2, .ref (dd 16 0))]) hx hb dL_law_874 hl (k := 3) rfl rfl (by decide) rfl (fun ls hl => ?_)
          refine lv_goto (tgt := 18) hx hb dL_law_877 (by decide) ?_
          exact ih18 (x3 + 5) S0 S1 q75.2.1 q75.2.2.1 q75.2.2.2 S5 S6 S7 S8 S9 S10 S11 S12 S13 q77.2 _ _ hP hS ls (lv_sub hl [1, 2, 3, 0] rfl) ht
        · have ht := it_n c79 ht
          refine lv_iconst (v := 0) hx hb dL_law_446 (by decide) ?_
          exact absurd (Option.some.inj ht) (by decide)
      have ht := it_n c72 ht
      by_cases c80 : (xs x3.toNatClampNeg) &&& 31 = 10
      · have ht := it_p c80 ht
        refine lv_tableIn (tgt := 448) hx hb dL_law_32 (by rw [c80]; decide) (by rw [c80]; decide) (by rw [c80]; rfl) (by decide) ?_
        refine lv_aload_n hx hb dL_law_448 rfl (lv_at hl 1 rfl) ?_
        refine lv_aload_n hx hb dL_law_449 rfl (lv_at hl 0 rfl) ?_
        refine lv_iload_n hx hb dL_law_450 rfl (lv_at hl 3 rfl) ?_
        refine lv_iconst (v := 1) hx hb dL_law_451 (by decide) ?_
        refine lv_iadd hx hb dL_law_452 ?_
        obtain ⟨g81, ht⟩ := it_g ht
        refine va_sld hx hb hX hbl hbA hS (q_in g81) dL_law_453 ?_
        obtain ⟨q82, hq82, ht⟩ := it_b ht
        have hPc : va_P D vwCl (wg5 cI cZ (dd 0) S0 ++ (wg4 cI cZ (dd 1) S1 ++ (wg3 (dd 2) (dd 3) (dd 4) S2 ++ (wg5 cI cZ (dd 3) S3 ++ (wg0 cI cZ (dd 4) S4 ++ (wg8 dd)))))) H := hP.sub [0, 1, 2, 3, 4, 5, 6, 7, 8, 9, 10, 11, 12, 13, 14, 15, 16, 17, 18, 19, 20, 21, 22, 23, 64] rfl
        have hDc : va_D A (wg5 cI cZ (dd 0) S0 ++ (wg4 cI cZ (dd 1) S1 ++ (wg3 (dd 2) (dd 3) (dd 4) S2 ++ (wg5 cI cZ (dd 3) S3 ++ (wg0 cI cZ (dd 4) S4 ++ (wg8 dd)))))) := ((hD S0 S1 S2 S3 S4 S5 S6 S7 S8 S9 S10 S11 S12 S13 S16)).sub [0, 1, 2, 3, 4, 5, 6, 7, 8, 9, 10, 11, 12, 13, 14, 15, 16, 17, 18, 19, 20, 21, 22, 23, 64] (by decide) rfl
        have hFc := va_free (wc := (wg5 cI cZ (dd 0) S0 ++ (wg4 cI cZ (dd 1) S1 ++ (wg3 (dd 2) (dd 3) (dd 4) S2 ++ (wg5 cI cZ (dd 3) S3 ++ (wg0 cI cZ (dd 4) S4 ++ (wg8 dd))))))) (hD S0 S1 S2 S3 S4 S5 S6 S7 S8 S9 S10 S11 S12 S13 S16) hS hA [0, 1, 2, 3, 4, 5, 6, 7, 8, 9, 10, 11, 12, 13, 14, 15, 16, 17, 18, 19, 20, 21, 22, 23, 64] rfl
        refine q_mi (va_runV (As := [.int (xs (x3 + 1).toNatClampNeg)]) (rest := []) ⟨hx, hb, hml, hown, hts⟩ (kX8_yard l D cI cZ cO dd H.size S0 S1 S2 S3 S4 (xs (x3 + 1).toNatClampNeg) q82 hq82) (cwV 1 hts gL_law_X8_yard rfl rfl rfl (by decide +kernel) ⟨Nat.le_of_ble_eq_true rfl, Nat.le_of_ble_eq_true rfl⟩) (q_mV (As := [.int (xs (x3 + 1).toNatClampNeg)]) hE hPc hDc (q0 := 24) (ci := 8) rfl rfl) rfl rfl hl.1 rfl (lv_room (Nat.le_of_ble_eq_true rfl)) dL_law_454 ⟨Nat.le_of_ble_eq_true rfl, Nat.le_of_ble_eq_true rfl⟩) hS hFc (fun H locs b83 hP1 hk hS => ?_)
        have hP : va_P D vwCl (wg5 cI cZ (dd 0) S0 ++ (wg4 cI cZ (dd 1) S1 ++ (wg3 (dd 2) (dd 3) (dd 4) q82.2.1 ++ (wg5 cI cZ (dd 3) q82.2.2.1 ++ (wg0 cI cZ (dd 4) q82.2.2.2 ++ (wg6 cI cZ (dd 5) S5 ++ (wg7 cI cZ (dd 6) S6 ++ (wg2 cI cZ (dd 7) S7 ++ (wg1 (dd 8) (dd 9) (dd 10) S8 ++ (wg5 cI cZ (dd 9) S9 ++ (wg7 cI cZ (dd 10) S10 ++ (wg1 (dd 11) (dd 12) (dd 13) S11 ++ (wg5 cI cZ (dd 12) S12 ++ (wg7 cI cZ (dd 13) S13 ++ (wg8 dd ++ (wgi cO dd ++ (wg9 cI cZ (dd 16) S16))))))))))))))))) H := (q_join (wr := (wg6 cI cZ (dd 5) S5 ++ (wg7 cI cZ (dd 6) S6 ++ (wg2 cI cZ (dd 7) S7 ++ (wg1 (dd 8) (dd 9) (dd 10) S8 ++ (wg5 cI cZ (dd 9) S9 ++ (wg7 cI cZ (dd 10) S10 ++ (wg1 (dd 11) (dd 12) (dd 13) S11 ++ (wg5 cI cZ (dd 12) S12 ++ (wg7 cI cZ (dd 13) S13 ++ (wgi cO dd ++ (wg9 cI cZ (dd 16) S16)))))))))))) hP (hD S0 S1 S2 S3 S4 S5 S6 S7 S8 S9 S10 S11 S12 S13 S16) [0, 1, 2, 3, 4, 5, 6, 7, 8, 9, 10, 11, 12, 13, 14, 15, 16, 17, 18, 19, 20, 21, 22, 23, 64] [24, 25, 26, 27, 28, 29, 30, 31, 32, 33, 34, 35, 36, 37, 38, 39, 40, 41, 42, 43, 44, 45, 46, 47, 48, 49, 50, 51, 52, 53, 54, 55, 56, 57, 58, 59, 60, 61, 62, 63, 65, 66, 67, 68, 69, 70, 71, 72, 73, 74, 75, 76, 77, 78, 79, 80, 81, 82, 83, 84, 85, 86, 87, 88] rfl rfl (by decide) (by decide) hk hFc hP1 hDc rfl).sub [64, 65, 66, 67, 68, 69, 70, 71, 72, 73, 74, 75, 76, 77, 78, 79, 80, 81, 82, 83, 84, 85, 86, 87, 0, 1, 2, 3, 4, 5, 6, 7, 8, 9, 10, 11, 12, 13, 14, 15, 16, 17, 18, 19, 20, 21, 22, 23, 24, 25, 26, 27, 28, 29, 30, 31, 32, 33, 34, 35, 36, 37, 38, 39, 88, 40, 41, 42, 43, 44, 45, 46, 47, 48, 49, 50, 51, 52, 53, 54, 55, 56, 57, 58, 59, 60, 61, 62, 63] rfl
        refine lv_aload_n hx hb dL_law_457 rfl (lv_at hl 2 rfl) ?_
        refine lv_aload_n hx hb dL_law_458 rfl (lv_at hl 0 rfl) ?_
        refine lv_iload_n hx hb dL_law_459 rfl (lv_at hl 3 rfl) ?_
        refine lv_iconst (v := 1) hx hb dL_law_460 (by decide) ?_
        refine lv_iadd hx hb dL_law_461 ?_
        refine va_sld hx hb hX hbl hbA hS (q_in g81) dL_law_462 ?_
        obtain ⟨q84, hq84, ht⟩ := it_b ht
        have hPc : va_P D vwCl (wg9 cI cZ (dd 16) S16) H := hP.sub [66, 67, 68, 69, 70, 71, 72, 73, 74, 75, 76, 77, 78, 79, 80, 81, 82, 83, 84, 85, 86, 87, 88] rfl
        have hDc : va_D A (wg9 cI cZ (dd 16) S16) := ((hD S0 S1 q82.2.1 q82.2.2.1 q82.2.2.2 S5 S6 S7 S8 S9 S10 S11 S12 S13 S16)).sub [66, 67, 68, 69, 70, 71, 72, 73, 74, 75, 76, 77, 78, 79, 80, 81, 82, 83, 84, 85, 86, 87, 88] (by decide) rfl
        have hFc := va_free (wc := (wg9 cI cZ (dd 16) S16)) (hD S0 S1 q82.2.1 q82.2.2.1 q82.2.2.2 S5 S6 S7 S8 S9 S10 S11 S12 S13 S16) hS hA [66, 67, 68, 69, 70, 71, 72, 73, 74, 75, 76, 77, 78, 79, 80, 81, 82, 83, 84, 85, 86, 87, 88] rfl
        refine q_mi (va_runV (As := [.int (xs (x3 + 1).toNatClampNeg)]) (rest := [.int q82.1]) ⟨hx, hb, hml, hown, hts⟩ (kX9_yard l D cI cZ cO (dd 16) H.size S16 (xs (x3 + 1).toNatClampNeg) q84 hq84) (cwV 1 hts gL_law_X9_yard rfl rfl rfl (by decide +kernel) ⟨Nat.le_of_ble_eq_true rfl, Nat.le_of_ble_eq_true rfl⟩) (q_mV (As := [.int (xs (x3 + 1).toNatClampNeg)]) hE hPc hDc (q0 := 0) (ci := 9) rfl rfl) rfl rfl hl.1 rfl (lv_room (Nat.le_of_ble_eq_true rfl)) dL_law_463 ⟨Nat.le_of_ble_eq_true rfl, Nat.le_of_ble_eq_true rfl⟩) hS hFc (fun H locs b85 hP1 hk hS => ?_)
        have hP : va_P D vwCl (wg5 cI cZ (dd 0) S0 ++ (wg4 cI cZ (dd 1) S1 ++ (wg3 (dd 2) (dd 3) (dd 4) q82.2.1 ++ (wg5 cI cZ (dd 3) q82.2.2.1 ++ (wg0 cI cZ (dd 4) q82.2.2.2 ++ (wg6 cI cZ (dd 5) S5 ++ (wg7 cI cZ (dd 6) S6 ++ (wg2 cI cZ (dd 7) S7 ++ (wg1 (dd 8) (dd 9) (dd 10) S8 ++ (wg5 cI cZ (dd 9) S9 ++ (wg7 cI cZ (dd 10) S10 ++ (wg1 (dd 11) (dd 12) (dd 13) S11 ++ (wg5 cI cZ (dd 12) S12 ++ (wg7 cI cZ (dd 13) S13 ++ (wg8 dd ++ (wgi cO dd ++ (wg9 cI cZ (dd 16) q84.2))))))))))))))))) H := (q_join (wr := (wg5 cI cZ (dd 0) S0 ++ (wg4 cI cZ (dd 1) S1 ++ (wg3 (dd 2) (dd 3) (dd 4) q82.2.1 ++ (wg5 cI cZ (dd 3) q82.2.2.1 ++ (wg0 cI cZ (dd 4) q82.2.2.2 ++ (wg6 cI cZ (dd 5) S5 ++ (wg7 cI cZ (dd 6) S6 ++ (wg2 cI cZ (dd 7) S7 ++ (wg1 (dd 8) (dd 9) (dd 10) S8 ++ (wg5 cI cZ (dd 9) S9 ++ (wg7 cI cZ (dd 10) S10 ++ (wg1 (dd 11) (dd 12) (dd 13) S11 ++ (wg5 cI cZ (dd 12) S12 ++ (wg7 cI cZ (dd 13) S13 ++ (wg8 dd ++ (wgi cO dd))))))))))))))))) hP (hD S0 S1 q82.2.1 q82.2.2.1 q82.2.2.2 S5 S6 S7 S8 S9 S10 S11 S12 S13 S16) [66, 67, 68, 69, 70, 71, 72, 73, 74, 75, 76, 77, 78, 79, 80, 81, 82, 83, 84, 85, 86, 87, 88] [0, 1, 2, 3, 4, 5, 6, 7, 8, 9, 10, 11, 12, 13, 14, 15, 16, 17, 18, 19, 20, 21, 22, 23, 24, 25, 26, 27, 28, 29, 30, 31, 32, 33, 34, 35, 36, 37, 38, 39, 40, 41, 42, 43, 44, 45, 46, 47, 48, 49, 50, 51, 52, 53, 54, 55, 56, 57, 58, 59, 60, 61, 62, 63, 64, 65] rfl rfl (by decide) (by decide) hk hFc hP1 hDc rfl).sub [0, 1, 2, 3, 4, 5, 6, 7, 8, 9, 10, 11, 12, 13, 14, 15, 16, 17, 18, 19, 20, 21, 22, 23, 24, 25, 26, 27, 28, 29, 30, 31, 32, 33, 34, 35, 36, 37, 38, 39, 40, 41, 42, 43, 44, 45, 46, 47, 48, 49, 50, 51, 52, 53, 54, 55, 56, 57, 58, 59, 60, 61, 62, 63, 64, 65, 66, 67, 68, 69, 70, 71, 72, 73, 74, 75, 76, 77, 78, 79, 80, 81, 82, 83, 84, 85, 86, 87, 88] rfl
        refine lv_icmp_eq (tgt := 874) hx hb dL_law_466 (by decide) (fun c86 => ?_) (fun c86 => ?_)
        · have ht := it_p c86 ht
          refine lv_iinc (v := x3 + 5) (lv' := [(3, .int (x3 + 5)), (0, .ref b), (1, .ref (dd 14 0)), (2, .ref (dd 16 0))]) hx hb dL_law_874 hl (k := 3) rfl rfl (by decide) rfl (fun ls hl => ?_)
          refine lv_goto (tgt := 18) hx hb dL_law_877 (by decide) ?_
          exact ih18 (x3 + 5) S0 S1 q82.2.1 q82.2.2.1 q82.2.2.2 S5 S6 S7 S8 S9 S10 S11 S12 S13 q84.2 _ _ hP hS ls (lv_sub hl [1, 2, 3, 0] rfl) ht
        · have ht := it_n c86 ht
          refine lv_iconst (v := 0) hx hb dL_law_469 (by decide) ?_
          exact absurd (Option.some.inj ht) (by decide)
      have ht := it_n c80 ht
      by_cases c87 : (xs x3.toNatClampNeg) &&& 31 = 11
      · have ht := it_p c87 ht
        refine lv_tableIn (tgt := 471) hx hb dL_law_32 (by rw [c87]; decide) (by rw [c87]; decide) (by rw [c87]; rfl) (by decide) ?_
        refine lv_aload_n hx hb dL_law_471 rfl (lv_at hl 1 rfl) ?_
        refine lv_aload_n hx hb dL_law_472 rfl (lv_at hl 0 rfl) ?_
        refine lv_iload_n hx hb dL_law_473 rfl (lv_at hl 3 rfl) ?_
        refine lv_iconst (v := 1) hx hb dL_law_474 (by decide) ?_
        refine lv_iadd hx hb dL_law_475 ?_
        obtain ⟨g88, ht⟩ := it_g ht
        refine va_sld hx hb hX hbl hbA hS (q_in g88) dL_law_476 ?_
        obtain ⟨q89, hq89, ht⟩ := it_b ht
        have hPc : va_P D vwCl (wg5 cI cZ (dd 0) S0 ++ (wg4 cI cZ (dd 1) S1 ++ (wg3 (dd 2) (dd 3) (dd 4) S2 ++ (wg5 cI cZ (dd 3) S3 ++ (wg0 cI cZ (dd 4) S4 ++ (wg8 dd)))))) H := hP.sub [0, 1, 2, 3, 4, 5, 6, 7, 8, 9, 10, 11, 12, 13, 14, 15, 16, 17, 18, 19, 20, 21, 22, 23, 64] rfl
        have hDc : va_D A (wg5 cI cZ (dd 0) S0 ++ (wg4 cI cZ (dd 1) S1 ++ (wg3 (dd 2) (dd 3) (dd 4) S2 ++ (wg5 cI cZ (dd 3) S3 ++ (wg0 cI cZ (dd 4) S4 ++ (wg8 dd)))))) := ((hD S0 S1 S2 S3 S4 S5 S6 S7 S8 S9 S10 S11 S12 S13 S16)).sub [0, 1, 2, 3, 4, 5, 6, 7, 8, 9, 10, 11, 12, 13, 14, 15, 16, 17, 18, 19, 20, 21, 22, 23, 64] (by decide) rfl
        have hFc := va_free (wc := (wg5 cI cZ (dd 0) S0 ++ (wg4 cI cZ (dd 1) S1 ++ (wg3 (dd 2) (dd 3) (dd 4) S2 ++ (wg5 cI cZ (dd 3) S3 ++ (wg0 cI cZ (dd 4) S4 ++ (wg8 dd))))))) (hD S0 S1 S2 S3 S4 S5 S6 S7 S8 S9 S10 S11 S12 S13 S16) hS hA [0, 1, 2, 3, 4, 5, 6, 7, 8, 9, 10, 11, 12, 13, 14, 15, 16, 17, 18, 19, 20, 21, 22, 23, 64] rfl
        refine q_mi (va_runV (As := [.int (xs (x3 + 1).toNatClampNeg)]) (rest := []) ⟨hx, hb, hml, hown, hts⟩ (kX8_lost l D cI cZ cO dd H.size S0 S1 S2 S3 S4 (xs (x3 + 1).toNatClampNeg) q89 hq89) (cwV 1 hts gL_law_X8_lost rfl rfl rfl (by decide +kernel) ⟨Nat.le_of_ble_eq_true rfl, Nat.le_of_ble_eq_true rfl⟩) (q_mV (As := [.int (xs (x3 + 1).toNatClampNeg)]) hE hPc hDc (q0 := 24) (ci := 8) rfl rfl) rfl rfl hl.1 rfl (lv_room (Nat.le_of_ble_eq_true rfl)) dL_law_477 ⟨Nat.le_of_ble_eq_true rfl, Nat.le_of_ble_eq_true rfl⟩) hS hFc (fun H locs b90 hP1 hk hS => ?_)
        have hP : va_P D vwCl (wg5 cI cZ (dd 0) S0 ++ (wg4 cI cZ (dd 1) S1 ++ (wg3 (dd 2) (dd 3) (dd 4) q89.2.1 ++ (wg5 cI cZ (dd 3) q89.2.2.1 ++ (wg0 cI cZ (dd 4) q89.2.2.2 ++ (wg6 cI cZ (dd 5) S5 ++ (wg7 cI cZ (dd 6) S6 ++ (wg2 cI cZ (dd 7) S7 ++ (wg1 (dd 8) (dd 9) (dd 10) S8 ++ (wg5 cI cZ (dd 9) S9 ++ (wg7 cI cZ (dd 10) S10 ++ (wg1 (dd 11) (dd 12) (dd 13) S11 ++ (wg5 cI cZ (dd 12) S12 ++ (wg7 cI cZ (dd 13) S13 ++ (wg8 dd ++ (wgi cO dd ++ (wg9 cI cZ (dd 16) S16))))))))))))))))) H := (q_join (wr := (wg6 cI cZ (dd 5) S5 ++ (wg7 cI cZ (dd 6) S6 ++ (wg2 cI cZ (dd 7) S7 ++ (wg1 (dd 8) (dd 9) (dd 10) S8 ++ (wg5 cI cZ (dd 9) S9 ++ (wg7 cI cZ (dd 10) S10 ++ (wg1 (dd 11) (dd 12) (dd 13) S11 ++ (wg5 cI cZ (dd 12) S12 ++ (wg7 cI cZ (dd 13) S13 ++ (wgi cO dd ++ (wg9 cI cZ (dd 16) S16)))))))))))) hP (hD S0 S1 S2 S3 S4 S5 S6 S7 S8 S9 S10 S11 S12 S13 S16) [0, 1, 2, 3, 4, 5, 6, 7, 8, 9, 10, 11, 12, 13, 14, 15, 16, 17, 18, 19, 20, 21, 22, 23, 64] [24, 25, 26, 27, 28, 29, 30, 31, 32, 33, 34, 35, 36, 37, 38, 39, 40, 41, 42, 43, 44, 45, 46, 47, 48, 49, 50, 51, 52, 53, 54, 55, 56, 57, 58, 59, 60, 61, 62, 63, 65, 66, 67, 68, 69, 70, 71, 72, 73, 74, 75, 76, 77, 78, 79, 80, 81, 82, 83, 84, 85, 86, 87, 88] rfl rfl (by decide) (by decide) hk hFc hP1 hDc rfl).sub [64, 65, 66, 67, 68, 69, 70, 71, 72, 73, 74, 75, 76, 77, 78, 79, 80, 81, 82, 83, 84, 85, 86, 87, 0, 1, 2, 3, 4, 5, 6, 7, 8, 9, 10, 11, 12, 13, 14, 15, 16, 17, 18, 19, 20, 21, 22, 23, 24, 25, 26, 27, 28, 29, 30, 31, 32, 33, 34, 35, 36, 37, 38, 39, 88, 40, 41, 42, 43, 44, 45, 46, 47, 48, 49, 50, 51, 52, 53, 54, 55, 56, 57, 58, 59, 60, 61, 62, 63] rfl
        refine lv_aload_n hx hb dL_law_480 rfl (lv_at hl 2 rfl) ?_
        refine lv_aload_n hx hb dL_law_481 rfl (lv_at hl 0 rfl) ?_
        refine lv_iload_n hx hb dL_law_482 rfl (lv_at hl 3 rfl) ?_
        refine lv_iconst (v := 1) hx hb dL_law_483 (by decide) ?_
        refine lv_iadd hx hb dL_law_484 ?_
        refine va_sld hx hb hX hbl hbA hS (q_in g88) dL_law_485 ?_
        obtain ⟨q91, hq91, ht⟩ := it_b ht
        have hPc : va_P D vwCl (wg9 cI cZ (dd 16) S16) H := hP.sub [66, 67, 68, 69, 70, 71, 72, 73, 74, 75, 76, 77, 78, 79, 80, 81, 82, 83, 84, 85, 86, 87, 88] rfl
        have hDc : va_D A (wg9 cI cZ (dd 16) S16) := ((hD S0 S1 q89.2.1 q89.2.2.1 q89.2.2.2 S5 S6 S7 S8 S9 S10 S11 S12 S13 S16)).sub [66, 67, 68, 69, 70, 71, 72, 73, 74, 75, 76, 77, 78, 79, 80, 81, 82, 83, 84, 85, 86, 87, 88] (by decide) rfl
        have hFc := va_free (wc := (wg9 cI cZ (dd 16) S16)) (hD S0 S1 q89.2.1 q89.2.2.1 q89.2.2.2 S5 S6 S7 S8 S9 S10 S11 S12 S13 S16) hS hA [66, 67, 68, 69, 70, 71, 72, 73, 74, 75, 76, 77, 78, 79, 80, 81, 82, 83, 84, 85, 86, 87, 88] rfl
        refine q_mi (va_runV (As := [.int (xs (x3 + 1).toNatClampNeg)]) (rest := [.int q89.1]) ⟨hx, hb, hml, hown, hts⟩ (kX9_lost l D cI cZ cO (dd 16) H.size S16 (xs (x3 + 1).toNatClampNeg) q91 hq91) (cwV 1 hts gL_law_X9_lost rfl rfl rfl (by decide +kernel) ⟨Nat.le_of_ble_eq_true rfl, Nat.le_of_ble_eq_true rfl⟩) (q_mV (As := [.int (xs (x3 + 1).toNatClampNeg)]) hE hPc hDc (q0 := 0) (ci := 9) rfl rfl) rfl rfl hl.1 rfl (lv_room (Nat.le_of_ble_eq_true rfl)) dL_law_486 ⟨Nat.le_of_ble_eq_true rfl, Nat.le_of_ble_eq_true rfl⟩) hS hFc (fun H locs b92 hP1 hk hS => ?_)
        have hP : va_P D vwCl (wg5 cI cZ (dd 0) S0 ++ (wg4 cI cZ (dd 1) S1 ++ (wg3 (dd 2) (dd 3) (dd 4) q89.2.1 ++ (wg5 cI cZ (dd 3) q89.2.2.1 ++ (wg0 cI cZ (dd 4) q89.2.2.2 ++ (wg6 cI cZ (dd 5) S5 ++ (wg7 cI cZ (dd 6) S6 ++ (wg2 cI cZ (dd 7) S7 ++ (wg1 (dd 8) (dd 9) (dd 10) S8 ++ (wg5 cI cZ (dd 9) S9 ++ (wg7 cI cZ (dd 10) S10 ++ (wg1 (dd 11) (dd 12) (dd 13) S11 ++ (wg5 cI cZ (dd 12) S12 ++ (wg7 cI cZ (dd 13) S13 ++ (wg8 dd ++ (wgi cO dd ++ (wg9 cI cZ (dd 16) q91.2))))))))))))))))) H := (q_join (wr := (wg5 cI cZ (dd 0) S0 ++ (wg4 cI cZ (dd 1) S1 ++ (wg3 (dd 2) (dd 3) (dd 4) q89.2.1 ++ (wg5 cI cZ (dd 3) q89.2.2.1 ++ (wg0 cI cZ (dd 4) q89.2.2.2 ++ (wg6 cI cZ (dd 5) S5 ++ (wg7 cI cZ (dd 6) S6 ++ (wg2 cI cZ (dd 7) S7 ++ (wg1 (dd 8) (dd 9) (dd 10) S8 ++ (wg5 cI cZ (dd 9) S9 ++ (wg7 cI cZ (dd 10) S10 ++ (wg1 (dd 11) (dd 12) (dd 13) S11 ++ (wg5 cI cZ (dd 12) S12 ++ (wg7 cI cZ (dd 13) S13 ++ (wg8 dd ++ (wgi cO dd))))))))))))))))) hP (hD S0 S1 q89.2.1 q89.2.2.1 q89.2.2.2 S5 S6 S7 S8 S9 S10 S11 S12 S13 S16) [66, 67, 68, 69, 70, 71, 72, 73, 74, 75, 76, 77, 78, 79, 80, 81, 82, 83, 84, 85, 86, 87, 88] [0, 1, 2, 3, 4, 5, 6, 7, 8, 9, 10, 11, 12, 13, 14, 15, 16, 17, 18, 19, 20, 21, 22, 23, 24, 25, 26, 27, 28, 29, 30, 31, 32, 33, 34, 35, 36, 37, 38, 39, 40, 41, 42, 43, 44, 45, 46, 47, 48, 49, 50, 51, 52, 53, 54, 55, 56, 57, 58, 59, 60, 61, 62, 63, 64, 65] rfl rfl (by decide) (by decide) hk hFc hP1 hDc rfl).sub [0, 1, 2, 3, 4, 5, 6, 7, 8, 9, 10, 11, 12, 13, 14, 15, 16, 17, 18, 19, 20, 21, 22, 23, 24, 25, 26, 27, 28, 29, 30, 31, 32, 33, 34, 35, 36, 37, 38, 39, 40, 41, 42, 43, 44, 45, 46, 47, 48, 49, 50, 51, 52, 53, 54, 55, 56, 57, 58, 59, 60, 61, 62, 63, 64, 65, 66, 67, 68, 69, 70, 71, 72, 73, 74, 75, 76, 77, 78, 79, 80, 81, 82, 83, 84, 85, 86, 87, 88] rfl
        refine lv_icmp_eq (tgt := 874) hx hb dL_law_489 (by decide) (fun c93 => ?_) (fun c93 => ?_)
        · have ht := it_p c93 ht
          refine lv_iinc (v := x3 + 5) (lv' := [(3, .int (x3 + 5)), (0, .ref b), (1, .ref (dd 14 0)), (2, .ref (dd 16 0))]) hx hb dL_law_874 hl (k := 3) rfl rfl (by decide) rfl (fun ls hl => ?_)
          refine lv_goto (tgt := 18) hx hb dL_law_877 (by decide) ?_
          exact ih18 (x3 + 5) S0 S1 q89.2.1 q89.2.2.1 q89.2.2.2 S5 S6 S7 S8 S9 S10 S11 S12 S13 q91.2 _ _ hP hS ls (lv_sub hl [1, 2, 3, 0] rfl) ht
        · have ht := it_n c93 ht
          refine lv_iconst (v := 0) hx hb dL_law_492 (by decide) ?_
          exact absurd (Option.some.inj ht) (by decide)
      have ht := it_n c87 ht
      by_cases c94 : (xs x3.toNatClampNeg) &&& 31 = 12
      · have ht := it_p c94 ht
        refine lv_tableIn (tgt := 494) hx hb dL_law_32 (by rw [c94]; decide) (by rw [c94]; decide) (by rw [c94]; rfl) (by decide) ?_
        refine lv_aload_n hx hb dL_law_494 rfl (lv_at hl 1 rfl) ?_
        obtain ⟨q95, hq95, ht⟩ := it_b ht
        have hPc : va_P D vwCl (wg5 cI cZ (dd 0) S0 ++ (wg4 cI cZ (dd 1) S1 ++ (wg3 (dd 2) (dd 3) (dd 4) S2 ++ (wg5 cI cZ (dd 3) S3 ++ (wg0 cI cZ (dd 4) S4 ++ (wg8 dd)))))) H := hP.sub [0, 1, 2, 3, 4, 5, 6, 7, 8, 9, 10, 11, 12, 13, 14, 15, 16, 17, 18, 19, 20, 21, 22, 23, 64] rfl
        have hDc : va_D A (wg5 cI cZ (dd 0) S0 ++ (wg4 cI cZ (dd 1) S1 ++ (wg3 (dd 2) (dd 3) (dd 4) S2 ++ (wg5 cI cZ (dd 3) S3 ++ (wg0 cI cZ (dd 4) S4 ++ (wg8 dd)))))) := ((hD S0 S1 S2 S3 S4 S5 S6 S7 S8 S9 S10 S11 S12 S13 S16)).sub [0, 1, 2, 3, 4, 5, 6, 7, 8, 9, 10, 11, 12, 13, 14, 15, 16, 17, 18, 19, 20, 21, 22, 23, 64] (by decide) rfl
        have hFc := va_free (wc := (wg5 cI cZ (dd 0) S0 ++ (wg4 cI cZ (dd 1) S1 ++ (wg3 (dd 2) (dd 3) (dd 4) S2 ++ (wg5 cI cZ (dd 3) S3 ++ (wg0 cI cZ (dd 4) S4 ++ (wg8 dd))))))) (hD S0 S1 S2 S3 S4 S5 S6 S7 S8 S9 S10 S11 S12 S13 S16) hS hA [0, 1, 2, 3, 4, 5, 6, 7, 8, 9, 10, 11, 12, 13, 14, 15, 16, 17, 18, 19, 20, 21, 22, 23, 64] rfl
        refine q_mi (va_runV (As := []) (rest := []) ⟨hx, hb, hml, hown, hts⟩ (kX8_done l D cI cZ cO dd H.size S0 S1 S2 S3 S4 q95 hq95) (cwV 0 hts gL_law_X8_done rfl rfl rfl (by decide +kernel) ⟨Nat.le_of_ble_eq_true rfl, Nat.le_of_ble_eq_true rfl⟩) (q_mV (As := []) hE hPc hDc (q0 := 24) (ci := 8) rfl rfl) rfl rfl hl.1 rfl (lv_room (Nat.le_of_ble_eq_true rfl)) dL_law_495 ⟨Nat.le_of_ble_eq_true rfl, Nat.le_of_ble_eq_true rfl⟩) hS hFc (fun H locs b96 hP1 hk hS => ?_)
        have hP : va_P D vwCl (wg5 cI cZ (dd 0) q95.2.1 ++ (wg4 cI cZ (dd 1) q95.2.2.1 ++ (wg3 (dd 2) (dd 3) (dd 4) q95.2.2.2.1 ++ (wg5 cI cZ (dd 3) q95.2.2.2.2.1 ++ (wg0 cI cZ (dd 4) q95.2.2.2.2.2 ++ (wg6 cI cZ (dd 5) S5 ++ (wg7 cI cZ (dd 6) S6 ++ (wg2 cI cZ (dd 7) S7 ++ (wg1 (dd 8) (dd 9) (dd 10) S8 ++ (wg5 cI cZ (dd 9) S9 ++ (wg7 cI cZ (dd 10) S10 ++ (wg1 (dd 11) (dd 12) (dd 13) S11 ++ (wg5 cI cZ (dd 12) S12 ++ (wg7 cI cZ (dd 13) S13 ++ (wg8 dd ++ (wgi cO dd ++ (wg9 cI cZ (dd 16) S16))))))))))))))))) H := (q_join (wr := (wg6 cI cZ (dd 5) S5 ++ (wg7 cI cZ (dd 6) S6 ++ (wg2 cI cZ (dd 7) S7 ++ (wg1 (dd 8) (dd 9) (dd 10) S8 ++ (wg5 cI cZ (dd 9) S9 ++ (wg7 cI cZ (dd 10) S10 ++ (wg1 (dd 11) (dd 12) (dd 13) S11 ++ (wg5 cI cZ (dd 12) S12 ++ (wg7 cI cZ (dd 13) S13 ++ (wgi cO dd ++ (wg9 cI cZ (dd 16) S16)))))))))))) hP (hD S0 S1 S2 S3 S4 S5 S6 S7 S8 S9 S10 S11 S12 S13 S16) [0, 1, 2, 3, 4, 5, 6, 7, 8, 9, 10, 11, 12, 13, 14, 15, 16, 17, 18, 19, 20, 21, 22, 23, 64] [24, 25, 26, 27, 28, 29, 30, 31, 32, 33, 34, 35, 36, 37, 38, 39, 40, 41, 42, 43, 44, 45, 46, 47, 48, 49, 50, 51, 52, 53, 54, 55, 56, 57, 58, 59, 60, 61, 62, 63, 65, 66, 67, 68, 69, 70, 71, 72, 73, 74, 75, 76, 77, 78, 79, 80, 81, 82, 83, 84, 85, 86, 87, 88] rfl rfl (by decide) (by decide) hk hFc hP1 hDc rfl).sub [64, 65, 66, 67, 68, 69, 70, 71, 72, 73, 74, 75, 76, 77, 78, 79, 80, 81, 82, 83, 84, 85, 86, 87, 0, 1, 2, 3, 4, 5, 6, 7, 8, 9, 10, 11, 12, 13, 14, 15, 16, 17, 18, 19, 20, 21, 22, 23, 24, 25, 26, 27, 28, 29, 30, 31, 32, 33, 34, 35, 36, 37, 38, 39, 88, 40, 41, 42, 43, 44, 45, 46, 47, 48, 49, 50, 51, 52, 53, 54, 55, 56, 57, 58, 59, 60, 61, 62, 63] rfl
        refine lv_aload_n hx hb dL_law_498 rfl (lv_at hl 2 rfl) ?_
        obtain ⟨q97, hq97, ht⟩ := it_b ht
        have hPc : va_P D vwCl (wg9 cI cZ (dd 16) S16) H := hP.sub [66, 67, 68, 69, 70, 71, 72, 73, 74, 75, 76, 77, 78, 79, 80, 81, 82, 83, 84, 85, 86, 87, 88] rfl
        have hDc : va_D A (wg9 cI cZ (dd 16) S16) := ((hD q95.2.1 q95.2.2.1 q95.2.2.2.1 q95.2.2.2.2.1 q95.2.2.2.2.2 S5 S6 S7 S8 S9 S10 S11 S12 S13 S16)).sub [66, 67, 68, 69, 70, 71, 72, 73, 74, 75, 76, 77, 78, 79, 80, 81, 82, 83, 84, 85, 86, 87, 88] (by decide) rfl
        have hFc := va_free (wc := (wg9 cI cZ (dd 16) S16)) (hD q95.2.1 q95.2.2.1 q95.2.2.2.1 q95.2.2.2.2.1 q95.2.2.2.2.2 S5 S6 S7 S8 S9 S10 S11 S12 S13 S16) hS hA [66, 67, 68, 69, 70, 71, 72, 73, 74, 75, 76, 77, 78, 79, 80, 81, 82, 83, 84, 85, 86, 87, 88] rfl
        refine q_mi (va_runV (As := []) (rest := [.int q95.1]) ⟨hx, hb, hml, hown, hts⟩ (kX9_done l D cI cZ cO (dd 16) H.size S16 q97 hq97) (cwV 0 hts gL_law_X9_done rfl rfl rfl (by decide +kernel) ⟨Nat.le_of_ble_eq_true rfl, Nat.le_of_ble_eq_true rfl⟩) (q_mV (As := []) hE hPc hDc (q0 := 0) (ci := 9) rfl rfl) rfl rfl hl.1 rfl (lv_room (Nat.le_of_ble_eq_true rfl)) dL_law_499 ⟨Nat.le_of_ble_eq_true rfl, Nat.le_of_ble_eq_true rfl⟩) hS hFc (fun H locs b98 hP1 hk hS => ?_)
        have hP : va_P D vwCl (wg5 cI cZ (dd 0) q95.2.1 ++ (wg4 cI cZ (dd 1) q95.2.2.1 ++ (wg3 (dd 2) (dd 3) (dd 4) q95.2.2.2.1 ++ (wg5 cI cZ (dd 3) q95.2.2.2.2.1 ++ (wg0 cI cZ (dd 4) q95.2.2.2.2.2 ++ (wg6 cI cZ (dd 5) S5 ++ (wg7 cI cZ (dd 6) S6 ++ (wg2 cI cZ (dd 7) S7 ++ (wg1 (dd 8) (dd 9) (dd 10) S8 ++ (wg5 cI cZ (dd 9) S9 ++ (wg7 cI cZ (dd 10) S10 ++ (wg1 (dd 11) (dd 12) (dd 13) S11 ++ (wg5 cI cZ (dd 12) S12 ++ (wg7 cI cZ (dd 13) S13 ++ (wg8 dd ++ (wgi cO dd ++ (wg9 cI cZ (dd 16) q97.2))))))))))))))))) H := (q_join (wr := (wg5 cI cZ (dd 0) q95.2.1 ++ (wg4 cI cZ (dd 1) q95.2.2.1 ++ (wg3 (dd 2) (dd 3) (dd 4) q95.2.2.2.1 ++ (wg5 cI cZ (dd 3) q95.2.2.2.2.1 ++ (wg0 cI cZ (dd 4) q95.2.2.2.2.2 ++ (wg6 cI cZ (dd 5) S5 ++ (wg7 cI cZ (dd 6) S6 ++ (wg2 cI cZ (dd 7) S7 ++ (wg1 (dd 8) (dd 9) (dd 10) S8 ++ (wg5 cI cZ (dd 9) S9 ++ (wg7 cI cZ (dd 10) S10 ++ (wg1 (dd 11) (dd 12) (dd 13) S11 ++ (wg5 cI cZ (dd 12) S12 ++ (wg7 cI cZ (dd 13) S13 ++ (wg8 dd ++ (wgi cO dd))))))))))))))))) hP (hD q95.2.1 q95.2.2.1 q95.2.2.2.1 q95.2.2.2.2.1 q95.2.2.2.2.2 S5 S6 S7 S8 S9 S10 S11 S12 S13 S16) [66, 67, 68, 69, 70, 71, 72, 73, 74, 75, 76, 77, 78, 79, 80, 81, 82, 83, 84, 85, 86, 87, 88] [0, 1, 2, 3, 4, 5, 6, 7, 8, 9, 10, 11, 12, 13, 14, 15, 16, 17, 18, 19, 20, 21, 22, 23, 24, 25, 26, 27, 28, 29, 30, 31, 32, 33, 34, 35, 36, 37, 38, 39, 40, 41, 42, 43, 44, 45, 46, 47, 48, 49, 50, 51, 52, 53, 54, 55, 56, 57, 58, 59, 60, 61, 62, 63, 64, 65] rfl rfl (by decide) (by decide) hk hFc hP1 hDc rfl).sub [0, 1, 2, 3, 4, 5, 6, 7, 8, 9, 10, 11, 12, 13, 14, 15, 16, 17, 18, 19, 20, 21, 22, 23, 24, 25, 26, 27, 28, 29, 30, 31, 32, 33, 34, 35, 36, 37, 38, 39, 40, 41, 42, 43, 44, 45, 46, 47, 48, 49, 50, 51, 52, 53, 54, 55, 56, 57, 58, 59, 60, 61, 62, 63, 64, 65, 66, 67, 68, 69, 70, 71, 72, 73, 74, 75, 76, 77, 78, 79, 80, 81, 82, 83, 84, 85, 86, 87, 88] rfl
        refine lv_icmp_eq (tgt := 874) hx hb dL_law_502 (by decide) (fun c99 => ?_) (fun c99 => ?_)
        · have ht := it_p c99 ht
          refine lv_iinc (v := x3 + 5) (lv' := [(3, .int (x3 + 5)), (0, .ref b), (1, .ref (dd 14 0)), (2, .ref (dd 16 0))]) hx hb dL_law_874 hl (k := 3) rfl rfl (by decide) rfl (fun ls hl => ?_)
          refine lv_goto (tgt := 18) hx hb dL_law_877 (by decide) ?_
          exact ih18 (x3 + 5) q95.2.1 q95.2.2.1 q95.2.2.2.1 q95.2.2.2.2.1 q95.2.2.2.2.2 S5 S6 S7 S8 S9 S10 S11 S12 S13 q97.2 _ _ hP hS ls (lv_sub hl [1, 2, 3, 0] rfl) ht
        · have ht := it_n c99 ht
          refine lv_iconst (v := 0) hx hb dL_law_505 (by decide) ?_
          exact absurd (Option.some.inj ht) (by decide)
      have ht := it_n c94 ht
      by_cases c100 : (xs x3.toNatClampNeg) &&& 31 = 13
      · have ht := it_p c100 ht
        refine lv_tableIn (tgt := 507) hx hb dL_law_32 (by rw [c100]; decide) (by rw [c100]; decide) (by rw [c100]; rfl) (by decide) ?_
        refine lv_aload_n hx hb dL_law_507 rfl (lv_at hl 1 rfl) ?_
        refine lv_aload_n hx hb dL_law_508 rfl (lv_at hl 0 rfl) ?_
        refine lv_iload_n hx hb dL_law_509 rfl (lv_at hl 3 rfl) ?_
        refine lv_iconst (v := 1) hx hb dL_law_510 (by decide) ?_
        refine lv_iadd hx hb dL_law_511 ?_
        obtain ⟨g101, ht⟩ := it_g ht
        refine va_sld hx hb hX hbl hbA hS (q_in g101) dL_law_512 ?_
        refine lv_aload_n hx hb dL_law_513 rfl (lv_at hl 0 rfl) ?_
        refine lv_iload_n hx hb dL_law_514 rfl (lv_at hl 3 rfl) ?_
        refine lv_iconst (v := 2) hx hb dL_law_515 (by decide) ?_
        refine lv_iadd hx hb dL_law_516 ?_
        obtain ⟨g102, ht⟩ := it_g ht
        refine va_sld hx hb hX hbl hbA hS (q_in g102) dL_law_517 ?_
        obtain ⟨q103, hq103, ht⟩ := it_b ht
        have hPc : va_P D vwCl (wg5 cI cZ (dd 0) S0 ++ (wg6 cI cZ (dd 5) S5 ++ (wg8 dd))) H := hP.sub [0, 1, 2, 3, 4, 5, 6, 7, 8, 9, 24, 25, 64] rfl
        have hDc : va_D A (wg5 cI cZ (dd 0) S0 ++ (wg6 cI cZ (dd 5) S5 ++ (wg8 dd))) := ((hD S0 S1 S2 S3 S4 S5 S6 S7 S8 S9 S10 S11 S12 S13 S16)).sub [0, 1, 2, 3, 4, 5, 6, 7, 8, 9, 24, 25, 64] (by decide) rfl
        have hFc := va_free (wc := (wg5 cI cZ (dd 0) S0 ++ (wg6 cI cZ (dd 5) S5 ++ (wg8 dd)))) (hD S0 S1 S2 S3 S4 S5 S6 S7 S8 S9 S10 S11 S12 S13 S16) hS hA [0, 1, 2, 3, 4, 5, 6, 7, 8, 9, 24, 25, 64] rfl
        refine q_mi (va_runV (As := [.int (xs (x3 + 1).toNatClampNeg), .int (xs (x3 + 2).toNatClampNeg)]) (rest := []) ⟨hx, hb, hml, hown, hts⟩ (kX8_plan l D cI cZ cO dd H.size S0 S5 (xs (x3 + 1).toNatClampNeg) (xs (x3 + 2).toNatClampNeg) q103 hq103) (cwV 2 hts gL_law_X8_plan rfl rfl rfl (by decide +kernel) ⟨Nat.le_of_ble_eq_true rfl, Nat.le_of_ble_eq_true rfl⟩) (q_mV (As := [.int (xs (x3 + 1).toNatClampNeg), .int (xs (x3 + 2).toNatClampNeg)]) hE hPc hDc (q0 := 12) (ci := 8) rfl rfl) rfl rfl hl.1 rfl (lv_room (Nat.le_of_ble_eq_true rfl)) dL_law_518 ⟨Nat.le_of_ble_eq_true rfl, Nat.le_of_ble_eq_true rfl⟩) hS hFc (fun H locs b104 hP1 hk hS => ?_)
        have hP : va_P D vwCl (wg5 cI cZ (dd 0) S0 ++ (wg4 cI cZ (dd 1) S1 ++ (wg3 (dd 2) (dd 3) (dd 4) S2 ++ (wg5 cI cZ (dd 3) S3 ++ (wg0 cI cZ (dd 4) S4 ++ (wg6 cI cZ (dd 5) q103.2 ++ (wg7 cI cZ (dd 6) S6 ++ (wg2 cI cZ (dd 7) S7 ++ (wg1 (dd 8) (dd 9) (dd 10) S8 ++ (wg5 cI cZ (dd 9) S9 ++ (wg7 cI cZ (dd 10) S10 ++ (wg1 (dd 11) (dd 12) (dd 13) S11 ++ (wg5 cI cZ (dd 12) S12 ++ (wg7 cI cZ (dd 13) S13 ++ (wg8 dd ++ (wgi cO dd ++ (wg9 cI cZ (dd 16) S16))))))))))))))))) H := (q_join (wr := (wg4 cI cZ (dd 1) S1 ++ (wg3 (dd 2) (dd 3) (dd 4) S2 ++ (wg5 cI cZ (dd 3) S3 ++ (wg0 cI cZ (dd 4) S4 ++ (wg7 cI cZ (dd 6) S6 ++ (wg2 cI cZ (dd 7) S7 ++ (wg1 (dd 8) (dd 9) (dd 10) S8 ++ (wg5 cI cZ (dd 9) S9 ++ (wg7 cI cZ (dd 10) S10 ++ (wg1 (dd 11) (dd 12) (dd 13) S11 ++ (wg5 cI cZ (dd 12) S12 ++ (wg7 cI cZ (dd 13) S13 ++ (wgi cO dd ++ (wg9 cI cZ (dd 16) S16))))))))))))))) hP (hD S0 S1 S2 S3 S4 S5 S6 S7 S8 S9 S10 S11 S12 S13 S16) [0, 1, 2, 3, 4, 5, 6, 7, 8, 9, 24, 25, 64] [10, 11, 12, 13, 14, 15, 16, 17, 18, 19, 20, 21, 22, 23, 26, 27, 28, 29, 30, 31, 32, 33, 34, 35, 36, 37, 38, 39, 40, 41, 42, 43, 44, 45, 46, 47, 48, 49, 50, 51, 52, 53, 54, 55, 56, 57, 58, 59, 60, 61, 62, 63, 65, 66, 67, 68, 69, 70, 71, 72, 73, 74, 75, 76, 77, 78, 79, 80, 81, 82, 83, 84, 85, 86, 87, 88] rfl rfl (by decide) (by decide) hk hFc hP1 hDc rfl).sub [76, 77, 78, 79, 80, 81, 82, 83, 84, 85, 0, 1, 2, 3, 4, 5, 6, 7, 8, 9, 10, 11, 12, 13, 86, 87, 14, 15, 16, 17, 18, 19, 20, 21, 22, 23, 24, 25, 26, 27, 28, 29, 30, 31, 32, 33, 34, 35, 36, 37, 38, 39, 40, 41, 42, 43, 44, 45, 46, 47, 48, 49, 50, 51, 88, 52, 53, 54, 55, 56, 57, 58, 59, 60, 61, 62, 63, 64, 65, 66, 67, 68, 69, 70, 71, 72, 73, 74, 75] rfl
        refine lv_aload_n hx hb dL_law_521 rfl (lv_at hl 2 rfl) ?_
        refine lv_aload_n hx hb dL_law_522 rfl (lv_at hl 0 rfl) ?_
        refine lv_iload_n hx hb dL_law_523 rfl (lv_at hl 3 rfl) ?_
        refine lv_iconst (v := 1) hx hb dL_law_524 (by decide) ?_
        refine lv_iadd hx hb dL_law_525 ?_
        refine va_sld hx hb hX hbl hbA hS (q_in g101) dL_law_526 ?_
        refine lv_aload_n hx hb dL_law_527 rfl (lv_at hl 0 rfl) ?_
        refine lv_iload_n hx hb dL_law_528 rfl (lv_at hl 3 rfl) ?_
        refine lv_iconst (v := 2) hx hb dL_law_529 (by decide) ?_
        refine lv_iadd hx hb dL_law_530 ?_
        refine va_sld hx hb hX hbl hbA hS (q_in g102) dL_law_531 ?_
        obtain ⟨q105, hq105, ht⟩ := it_b ht
        have hPc : va_P D vwCl (wg9 cI cZ (dd 16) S16) H := hP.sub [66, 67, 68, 69, 70, 71, 72, 73, 74, 75, 76, 77, 78, 79, 80, 81, 82, 83, 84, 85, 86, 87, 88] rfl
        have hDc : va_D A (wg9 cI cZ (dd 16) S16) := ((hD S0 S1 S2 S3 S4 q103.2 S6 S7 S8 S9 S10 S11 S12 S13 S16)).sub [66, 67, 68, 69, 70, 71, 72, 73, 74, 75, 76, 77, 78, 79, 80, 81, 82, 83, 84, 85, 86, 87, 88] (by decide) rfl
        have hFc := va_free (wc := (wg9 cI cZ (dd 16) S16)) (hD S0 S1 S2 S3 S4 q103.2 S6 S7 S8 S9 S10 S11 S12 S13 S16) hS hA [66, 67, 68, 69, 70, 71, 72, 73, 74, 75, 76, 77, 78, 79, 80, 81, 82, 83, 84, 85, 86, 87, 88] rfl
        refine q_mi (va_runV (As := [.int (xs (x3 + 1).toNatClampNeg), .int (xs (x3 + 2).toNatClampNeg)]) (rest := [.int q103.1]) ⟨hx, hb, hml, hown, hts⟩ (kX9_plan l D cI cZ cO (dd 16) H.size S16 (xs (x3 + 1).toNatClampNeg) (xs (x3 + 2).toNatClampNeg) q105 hq105) (cwV 2 hts gL_law_X9_plan rfl rfl rfl (by decide +kernel) ⟨Nat.le_of_ble_eq_true rfl, Nat.le_of_ble_eq_true rfl⟩) (q_mV (As := [.int (xs (x3 + 1).toNatClampNeg), .int (xs (x3 + 2).toNatClampNeg)]) hE hPc hDc (q0 := 0) (ci := 9) rfl rfl) rfl rfl hl.1 rfl (lv_room (Nat.le_of_ble_eq_true rfl)) dL_law_532 ⟨Nat.le_of_ble_eq_true rfl, Nat.le_of_ble_eq_true rfl⟩) hS hFc (fun H locs b106 hP1 hk hS => ?_)
        have hP : va_P D vwCl (wg5 cI cZ (dd 0) S0 ++ (wg4 cI cZ (dd 1) S1 ++ (wg3 (dd 2) (dd 3) (dd 4) S2 ++ (wg5 cI cZ (dd 3) S3 ++ (wg0 cI cZ (dd 4) S4 ++ (wg6 cI cZ (dd 5) q103.2 ++ (wg7 cI cZ (dd 6) S6 ++ (wg2 cI cZ (dd 7) S7 ++ (wg1 (dd 8) (dd 9) (dd 10) S8 ++ (wg5 cI cZ (dd 9) S9 ++ (wg7 cI cZ (dd 10) S10 ++ (wg1 (dd 11) (dd 12) (dd 13) S11 ++ (wg5 cI cZ (dd 12) S12 ++ (wg7 cI cZ (dd 13) S13 ++ (wg8 dd ++ (wgi cO dd ++ (wg9 cI cZ (dd 16) q105.2))))))))))))))))) H := (q_join (wr := (wg5 cI cZ (dd 0) S0 ++ (wg4 cI cZ (dd 1) S1 ++ (wg3 (dd 2) (dd 3) (dd 4) S2 ++ (wg5 cI cZ (dd 3) S3 ++ (wg0 cI cZ (dd 4) S4 ++ (wg6 cI cZ (dd 5) q103.2 ++ (wg7 cI cZ (dd 6) S6 ++ (wg2 cI cZ (dd 7) S7 ++ (wg1 (dd 8) (dd 9) (dd 10) S8 ++ (wg5 cI cZ (dd 9) S9 ++ (wg7 cI cZ (dd 10) S10 ++ (wg1 (dd 11) (dd 12) (dd 13) S11 ++ (wg5 cI cZ (dd 12) S12 ++ (wg7 cI cZ (dd 13) S13 ++ (wg8 dd ++ (wgi cO dd))))))))))))))))) hP (hD S0 S1 S2 S3 S4 q103.2 S6 S7 S8 S9 S10 S11 S12 S13 S16) [66, 67, 68, 69, 70, 71, 72, 73, 74, 75, 76, 77, 78, 79, 80, 81, 82, 83, 84, 85, 86, 87, 88] [0, 1, 2, 3, 4, 5, 6, 7, 8, 9, 10, 11, 12, 13, 14, 15, 16, 17, 18, 19, 20, 21, 22, 23, 24, 25, 26, 27, 28, 29, 30, 31, 32, 33, 34, 35, 36, 37, 38, 39, 40, 41, 42, 43, 44, 45, 46, 47, 48, 49, 50, 51, 52, 53, 54, 55, 56, 57, 58, 59, 60, 61, 62, 63, 64, 65] rfl rfl (by decide) (by decide) hk hFc hP1 hDc rfl).sub [0, 1, 2, 3, 4, 5, 6, 7, 8, 9, 10, 11, 12, 13, 14, 15, 16, 17, 18, 19, 20, 21, 22, 23, 24, 25, 26, 27, 28, 29, 30, 31, 32, 33, 34, 35, 36, 37, 38, 39, 40, 41, 42, 43, 44, 45, 46, 47, 48, 49, 50, 51, 52, 53, 54, 55, 56, 57, 58, 59, 60, 61, 62, 63, 64, 65, 66, 67, 68, 69, 70, 71, 72, 73, 74, 75, 76, 77, 78, 79, 80, 81, 82, 83, 84, 85, 86, 87, 88] rfl
        refine lv_icmp_eq (tgt := 874) hx hb dL_law_535 (by decide) (fun c107 => ?_) (fun c107 => ?_)
        · have ht := it_p c107 ht
          refine lv_iinc (v := x3 + 5) (lv' := [(3, .int (x3 + 5)), (0, .ref b), (1, .ref (dd 14 0)), (2, .ref (dd 16 0))]) hx hb dL_law_874 hl (k := 3) rfl rfl (by decide) rfl (fun ls hl => ?_)
          refine lv_goto (tgt := 18) hx hb dL_law_877 (by decide) ?_
          exact ih18 (x3 + 5) S0 S1 S2 S3 S4 q103.2 S6 S7 S8 S9 S10 S11 S12 S13 q105.2 _ _ hP hS ls (lv_sub hl [1, 2, 3, 0] rfl) ht
        · have ht := it_n c107 ht
          refine lv_iconst (v := 0) hx hb dL_law_538 (by decide) ?_
          exact absurd (Option.some.inj ht) (by decide)
      have ht := it_n c100 ht
      by_cases c108 : (xs x3.toNatClampNeg) &&& 31 = 14
      · have ht := it_p c108 ht
        refine lv_tableIn (tgt := 540) hx hb dL_law_32 (by rw [c108]; decide) (by rw [c108]; decide) (by rw [c108]; rfl) (by decide) ?_
        refine lv_aload_n hx hb dL_law_540 rfl (lv_at hl 1 rfl) ?_
        refine lv_aload_n hx hb dL_law_541 rfl (lv_at hl 0 rfl) ?_
        refine lv_iload_n hx hb dL_law_542 rfl (lv_at hl 3 rfl) ?_
        refine lv_iconst (v := 1) hx hb dL_law_543 (by decide) ?_
        refine lv_iadd hx hb dL_law_544 ?_
        obtain ⟨g109, ht⟩ := it_g ht
        refine va_sld hx hb hX hbl hbA hS (q_in g109) dL_law_545 ?_
        refine lv_aload_n hx hb dL_law_546 rfl (lv_at hl 0 rfl) ?_
        refine lv_iload_n hx hb dL_law_547 rfl (lv_at hl 3 rfl) ?_
        refine lv_iconst (v := 2) hx hb dL_law_548 (by decide) ?_
        refine lv_iadd hx hb dL_law_549 ?_
        obtain ⟨g110, ht⟩ := it_g ht
        refine va_sld hx hb hX hbl hbA hS (q_in g110) dL_law_550 ?_
        obtain ⟨q111, hq111, ht⟩ := it_b ht
        have hPc : va_P D vwCl (wg5 cI cZ (dd 0) S0 ++ (wg8 dd)) H := hP.sub [0, 1, 2, 3, 4, 5, 6, 7, 8, 9, 64] rfl
        refine q_ri (va_runV (As := [.int (xs (x3 + 1).toNatClampNeg), .int (xs (x3 + 2).toNatClampNeg)]) (rest := []) ⟨hx, hb, hml, hown, hts⟩ (kX8_cover l D cI cZ cO dd S0 (xs (x3 + 1).toNatClampNeg) (xs (x3 + 2).toNatClampNeg) q111 hq111) (cwV 2 hts gL_law_X8_cover rfl rfl rfl (by decide +kernel) ⟨Nat.le_of_ble_eq_true rfl, Nat.le_of_ble_eq_true rfl⟩) (q_rV (As := [.int (xs (x3 + 1).toNatClampNeg), .int (xs (x3 + 2).toNatClampNeg)]) hE hPc (q0 := 10) (ci := 8) rfl rfl) rfl rfl hl.1 rfl (lv_room (Nat.le_of_ble_eq_true rfl)) dL_law_551 ⟨Nat.le_of_ble_eq_true rfl, Nat.le_of_ble_eq_true rfl⟩) (fun b112 => ?_)
        refine lv_aload_n hx hb dL_law_554 rfl (lv_at hl 2 rfl) ?_
        refine lv_aload_n hx hb dL_law_555 rfl (lv_at hl 0 rfl) ?_
        refine lv_iload_n hx hb dL_law_556 rfl (lv_at hl 3 rfl) ?_
        refine lv_iconst (v := 1) hx hb dL_law_557 (by decide) ?_
        refine lv_iadd hx hb dL_law_558 ?_
        refine va_sld hx hb hX hbl hbA hS (q_in g109) dL_law_559 ?_
        refine lv_aload_n hx hb dL_law_560 rfl (lv_at hl 0 rfl) ?_
        refine lv_iload_n hx hb dL_law_561 rfl (lv_at hl 3 rfl) ?_
        refine lv_iconst (v := 2) hx hb dL_law_562 (by decide) ?_
        refine lv_iadd hx hb dL_law_563 ?_
        refine va_sld hx hb hX hbl hbA hS (q_in g110) dL_law_564 ?_
        obtain ⟨q113, hq113, ht⟩ := it_b ht
        have hPc : va_P D vwCl (wg9 cI cZ (dd 16) S16) H := hP.sub [66, 67, 68, 69, 70, 71, 72, 73, 74, 75, 76, 77, 78, 79, 80, 81, 82, 83, 84, 85, 86, 87, 88] rfl
        refine q_ri (va_runV (As := [.int (xs (x3 + 1).toNatClampNeg), .int (xs (x3 + 2).toNatClampNeg)]) (rest := [.int q111]) ⟨hx, hb, hml, hown, hts⟩ (kX9_cover l D cI cZ cO (dd 16) S16 (xs (x3 + 1).toNatClampNeg) (xs (x3 + 2).toNatClampNeg) q113 hq113) (cwV 2 hts gL_law_X9_cover rfl rfl rfl (by decide +kernel) ⟨Nat.le_of_ble_eq_true rfl, Nat.le_of_ble_eq_true rfl⟩) (q_rV (As := [.int (xs (x3 + 1).toNatClampNeg), .int (xs (x3 + 2).toNatClampNeg)]) hE hPc (q0 := 0) (ci := 9) rfl rfl) rfl rfl hl.1 rfl (lv_room (Nat.le_of_ble_eq_true rfl)) dL_law_565 ⟨Nat.le_of_ble_eq_true rfl, Nat.le_of_ble_eq_true rfl⟩) (fun b114 => ?_)
        refine lv_icmp_eq (tgt := 874) hx hb dL_law_568 (by decide) (fun c115 => ?_) (fun c115 => ?_)
        · have ht := it_p c115 ht
          refine lv_iinc (v := x3 + 5) (lv' := [(3, .int (x3 + 5)), (0, .ref b), (1, .ref (dd 14 0)), (2, .ref (dd 16 0))]) hx hb dL_law_874 hl (k := 3) rfl rfl (by decide) rfl (fun ls hl => ?_)
          refine lv_goto (tgt := 18) hx hb dL_law_877 (by decide) ?_
          exact ih18 (x3 + 5) S0 S1 S2 S3 S4 S5 S6 S7 S8 S9 S10 S11 S12 S13 S16 _ _ hP hS ls (lv_sub hl [1, 2, 3, 0] rfl) ht
        · have ht := it_n c115 ht
          refine lv_iconst (v := 0) hx hb dL_law_571 (by decide) ?_
          exact absurd (Option.some.inj ht) (by decide)
      have ht := it_n c108 ht
      by_cases c116 : (xs x3.toNatClampNeg) &&& 31 = 15
      · have ht := it_p c116 ht
        refine lv_tableIn (tgt := 573) hx hb dL_law_32 (by rw [c116]; decide) (by rw [c116]; decide) (by rw [c116]; rfl) (by decide) ?_
        refine lv_aload_n hx hb dL_law_573 rfl (lv_at hl 1 rfl) ?_
        refine lv_aload_n hx hb dL_law_574 rfl (lv_at hl 0 rfl) ?_
        refine lv_iload_n hx hb dL_law_575 rfl (lv_at hl 3 rfl) ?_
        refine lv_iconst (v := 1) hx hb dL_law_576 (by decide) ?_
        refine lv_iadd hx hb dL_law_577 ?_
        obtain ⟨g117, ht⟩ := it_g ht
        refine va_sld hx hb hX hbl hbA hS (q_in g117) dL_law_578 ?_
        refine lv_aload_n hx hb dL_law_579 rfl (lv_at hl 0 rfl) ?_
        refine lv_iload_n hx hb dL_law_580 rfl (lv_at hl 3 rfl) ?_
        refine lv_iconst (v := 2) hx hb dL_law_581 (by decide) ?_
        refine lv_iadd hx hb dL_law_582 ?_
        obtain ⟨g118, ht⟩ := it_g ht
        refine va_sld hx hb hX hbl hbA hS (q_in g118) dL_law_583 ?_
        refine lv_aload_n hx hb dL_law_584 rfl (lv_at hl 0 rfl) ?_
        refine lv_iload_n hx hb dL_law_585 rfl (lv_at hl 3 rfl) ?_
        refine lv_iconst (v := 3) hx hb dL_law_586 (by decide) ?_
        refine lv_iadd hx hb dL_law_587 ?_
        obtain ⟨g119, ht⟩ := it_g ht
        refine va_sld hx hb hX hbl hbA hS (q_in g119) dL_law_588 ?_
        obtain ⟨q120, hq120, ht⟩ := it_b ht
        have hPc : va_P D vwCl (wg7 cI cZ (dd 6) S6 ++ (wg8 dd)) H := hP.sub [26, 27, 28, 29, 64] rfl
        have hDc : va_D A (wg7 cI cZ (dd 6) S6 ++ (wg8 dd)) := ((hD S0 S1 S2 S3 S4 S5 S6 S7 S8 S9 S10 S11 S12 S13 S16)).sub [26, 27, 28, 29, 64] (by decide) rfl
        have hFc := va_free (wc := (wg7 cI cZ (dd 6) S6 ++ (wg8 dd))) (hD S0 S1 S2 S3 S4 S5 S6 S7 S8 S9 S10 S11 S12 S13 S16) hS hA [26, 27, 28, 29, 64] rfl
        refine q_mi (va_runV (As := [.int (xs (x3 + 1).toNatClampNeg), .int (xs (x3 + 2).toNatClampNeg), .int (xs (x3 + 3).toNatClampNeg)]) (rest := []) ⟨hx, hb, hml, hown, hts⟩ (kX8_seen l D cI cZ cO dd H.size S6 (xs (x3 + 1).toNatClampNeg) (xs (x3 + 2).toNatClampNeg) (xs (x3 + 3).toNatClampNeg) q120 hq120) (cwV 3 hts gL_law_X8_seen rfl rfl rfl (by decide +kernel) ⟨Nat.le_of_ble_eq_true rfl, Nat.le_of_ble_eq_true rfl⟩) (q_mV (As := [.int (xs (x3 + 1).toNatClampNeg), .int (xs (x3 + 2).toNatClampNeg), .int (xs (x3 + 3).toNatClampNeg)]) hE hPc hDc (q0 := 4) (ci := 8) rfl rfl) rfl rfl hl.1 rfl (lv_room (Nat.le_of_ble_eq_true rfl)) dL_law_589 ⟨Nat.le_of_ble_eq_true rfl, Nat.le_of_ble_eq_true rfl⟩) hS hFc (fun H locs b121 hP1 hk hS => ?_)
        have hP : va_P D vwCl (wg5 cI cZ (dd 0) S0 ++ (wg4 cI cZ (dd 1) S1 ++ (wg3 (dd 2) (dd 3) (dd 4) S2 ++ (wg5 cI cZ (dd 3) S3 ++ (wg0 cI cZ (dd 4) S4 ++ (wg6 cI cZ (dd 5) S5 ++ (wg7 cI cZ (dd 6) q120.2 ++ (wg2 cI cZ (dd 7) S7 ++ (wg1 (dd 8) (dd 9) (dd 10) S8 ++ (wg5 cI cZ (dd 9) S9 ++ (wg7 cI cZ (dd 10) S10 ++ (wg1 (dd 11) (dd 12) (dd 13) S11 ++ (wg5 cI cZ (dd 12) S12 ++ (wg7 cI cZ (dd 13) S13 ++ (wg8 dd ++ (wgi cO dd ++ (wg9 cI cZ (dd 16) S16))))))))))))))))) H := (q_join (wr := (wg5 cI cZ (dd 0) S0 ++ (wg4 cI cZ (dd 1) S1 ++ (wg3 (dd 2) (dd 3) (dd 4) S2 ++ (wg5 cI cZ (dd 3) S3 ++ (wg0 cI cZ (dd 4) S4 ++ (wg6 cI cZ (dd 5) S5 ++ (wg2 cI cZ (dd 7) S7 ++ (wg1 (dd 8) (dd 9) (dd 10) S8 ++ (wg5 cI cZ (dd 9) S9 ++ (wg7 cI cZ (dd 10) S10 ++ (wg1 (dd 11) (dd 12) (dd 13) S11 ++ (wg5 cI cZ (dd 12) S12 ++ (wg7 cI cZ (dd 13) S13 ++ (wgi cO dd ++ (wg9 cI cZ (dd 16) S16)))))))))))))))) hP (hD S0 S1 S2 S3 S4 S5 S6 S7 S8 S9 S10 S11 S12 S13 S16) [26, 27, 28, 29, 64] [0, 1, 2, 3, 4, 5, 6, 7, 8, 9, 10, 11, 12, 13, 14, 15, 16, 17, 18, 19, 20, 21, 22, 23, 24, 25, 30, 31, 32, 33, 34, 35, 36, 37, 38, 39, 40, 41, 42, 43, 44, 45, 46, 47, 48, 49, 50, 51, 52, 53, 54, 55, 56, 57, 58, 59, 60, 61, 62, 63, 65, 66, 67, 68, 69, 70, 71, 72, 73, 74, 75, 76, 77, 78, 79, 80, 81, 82, 83, 84, 85, 86, 87, 88] rfl rfl (by decide) (by decide) hk hFc hP1 hDc rfl).sub [0, 1, 2, 3, 4, 5, 6, 7, 8, 9, 10, 11, 12, 13, 14, 15, 16, 17, 18, 19, 20, 21, 22, 23, 24, 25, 84, 85, 86, 87, 26, 27, 28, 29, 30, 31, 32, 33, 34, 35, 36, 37, 38, 39, 40, 41, 42, 43, 44, 45, 46, 47, 48, 49, 50, 51, 52, 53, 54, 55, 56, 57, 58, 59, 88, 60, 61, 62, 63, 64, 65, 66, 67, 68, 69, 70, 71, 72, 73, 74, 75, 76, 77, 78, 79, 80, 81, 82, 83] rfl
        refine lv_aload_n hx hb dL_law_592 rfl (lv_at hl 2 rfl) ?_
        refine lv_aload_n hx hb dL_law_593 rfl (lv_at hl 0 rfl) ?_
        refine lv_iload_n hx hb dL_law_594 rfl (lv_at hl 3 rfl) ?_
        refine lv_iconst (v := 1) hx hb dL_law_595 (by decide) ?_
        refine lv_iadd hx hb dL_law_596 ?_
        refine va_sld hx hb hX hbl hbA hS (q_in g117) dL_law_597 ?_
        refine lv_aload_n hx hb dL_law_598 rfl (lv_at hl 0 rfl) ?_
        refine lv_iload_n hx hb dL_law_599 rfl (lv_at hl 3 rfl) ?_
        refine lv_iconst (v := 2) hx hb dL_law_600 (by decide) ?_
        refine lv_iadd hx hb dL_law_601 ?_
        refine va_sld hx hb hX hbl hbA hS (q_in g118) dL_law_602 ?_
        refine lv_aload_n hx hb dL_law_603 rfl (lv_at hl 0 rfl) ?_
        refine lv_iload_n hx hb dL_law_604 rfl (lv_at hl 3 rfl) ?_
        refine lv_iconst (v := 3) hx hb dL_law_605 (by decide) ?_
        refine lv_iadd hx hb dL_law_606 ?_
        refine va_sld hx hb hX hbl hbA hS (q_in g119) dL_law_607 ?_
        obtain ⟨q122, hq122, ht⟩ := it_b ht
        have hPc : va_P D vwCl (wg9 cI cZ (dd 16) S16) H := hP.sub [66, 67, 68, 69, 70, 71, 72, 73, 74, 75, 76, 77, 78, 79, 80, 81, 82, 83, 84, 85, 86, 87, 88] rfl
        have hDc : va_D A (wg9 cI cZ (dd 16) S16) := ((hD S0 S1 S2 S3 S4 S5 q120.2 S7 S8 S9 S10 S11 S12 S13 S16)).sub [66, 67, 68, 69, 70, 71, 72, 73, 74, 75, 76, 77, 78, 79, 80, 81, 82, 83, 84, 85, 86, 87, 88] (by decide) rfl
        have hFc := va_free (wc := (wg9 cI cZ (dd 16) S16)) (hD S0 S1 S2 S3 S4 S5 q120.2 S7 S8 S9 S10 S11 S12 S13 S16) hS hA [66, 67, 68, 69, 70, 71, 72, 73, 74, 75, 76, 77, 78, 79, 80, 81, 82, 83, 84, 85, 86, 87, 88] rfl
        refine q_mi (va_runV (As := [.int (xs (x3 + 1).toNatClampNeg), .int (xs (x3 + 2).toNatClampNeg), .int (xs (x3 + 3).toNatClampNeg)]) (rest := [.int q120.1]) ⟨hx, hb, hml, hown, hts⟩ (kX9_seen l D cI cZ cO (dd 16) H.size S16 (xs (x3 + 1).toNatClampNeg) (xs (x3 + 2).toNatClampNeg) (xs (x3 + 3).toNatClampNeg) q122 hq122) (cwV 3 hts gL_law_X9_seen rfl rfl rfl (by decide +kernel) ⟨Nat.le_of_ble_eq_true rfl, Nat.le_of_ble_eq_true rfl⟩) (q_mV (As := [.int (xs (x3 + 1).toNatClampNeg), .int (xs (x3 + 2).toNatClampNeg), .int (xs (x3 + 3).toNatClampNeg)]) hE hPc hDc (q0 := 0) (ci := 9) rfl rfl) rfl rfl hl.1 rfl (lv_room (Nat.le_of_ble_eq_true rfl)) dL_law_608 ⟨Nat.le_of_ble_eq_true rfl, Nat.le_of_ble_eq_true rfl⟩) hS hFc (fun H locs b123 hP1 hk hS => ?_)
        have hP : va_P D vwCl (wg5 cI cZ (dd 0) S0 ++ (wg4 cI cZ (dd 1) S1 ++ (wg3 (dd 2) (dd 3) (dd 4) S2 ++ (wg5 cI cZ (dd 3) S3 ++ (wg0 cI cZ (dd 4) S4 ++ (wg6 cI cZ (dd 5) S5 ++ (wg7 cI cZ (dd 6) q120.2 ++ (wg2 cI cZ (dd 7) S7 ++ (wg1 (dd 8) (dd 9) (dd 10) S8 ++ (wg5 cI cZ (dd 9) S9 ++ (wg7 cI cZ (dd 10) S10 ++ (wg1 (dd 11) (dd 12) (dd 13) S11 ++ (wg5 cI cZ (dd 12) S12 ++ (wg7 cI cZ (dd 13) S13 ++ (wg8 dd ++ (wgi cO dd ++ (wg9 cI cZ (dd 16) q122.2))))))))))))))))) H := (q_join (wr := (wg5 cI cZ (dd 0) S0 ++ (wg4 cI cZ (dd 1) S1 ++ (wg3 (dd 2) (dd 3) (dd 4) S2 ++ (wg5 cI cZ (dd 3) S3 ++ (wg0 cI cZ (dd 4) S4 ++ (wg6 cI cZ (dd 5) S5 ++ (wg7 cI cZ (dd 6) q120.2 ++ (wg2 cI cZ (dd 7) S7 ++ (wg1 (dd 8) (dd 9) (dd 10) S8 ++ (wg5 cI cZ (dd 9) S9 ++ (wg7 cI cZ (dd 10) S10 ++ (wg1 (dd 11) (dd 12) (dd 13) S11 ++ (wg5 cI cZ (dd 12) S12 ++ (wg7 cI cZ (dd 13) S13 ++ (wg8 dd ++ (wgi cO dd))))))))))))))))) hP (hD S0 S1 S2 S3 S4 S5 q120.2 S7 S8 S9 S10 S11 S12 S13 S16) [66, 67, 68, 69, 70, 71, 72, 73, 74, 75, 76, 77, 78, 79, 80, 81, 82, 83, 84, 85, 86, 87, 88] [0, 1, 2, 3, 4, 5, 6, 7, 8, 9, 10, 11, 12, 13, 14, 15, 16, 17, 18, 19, 20, 21, 22, 23, 24, 25, 26, 27, 28, 29, 30, 31, 32, 33, 34, 35, 36, 37, 38, 39, 40, 41, 42, 43, 44, 45, 46, 47, 48, 49, 50, 51, 52, 53, 54, 55, 56, 57, 58, 59, 60, 61, 62, 63, 64, 65] rfl rfl (by decide) (by decide) hk hFc hP1 hDc rfl).sub [0, 1, 2, 3, 4, 5, 6, 7, 8, 9, 10, 11, 12, 13, 14, 15, 16, 17, 18, 19, 20, 21, 22, 23, 24, 25, 26, 27, 28, 29, 30, 31, 32, 33, 34, 35, 36, 37, 38, 39, 40, 41, 42, 43, 44, 45, 46, 47, 48, 49, 50, 51, 52, 53, 54, 55, 56, 57, 58, 59, 60, 61, 62, 63, 64, 65, 66, 67, 68, 69, 70, 71, 72, 73, 74, 75, 76, 77, 78, 79, 80, 81, 82, 83, 84, 85, 86, 87, 88] rfl
        refine lv_icmp_eq (tgt := 874) hx hb dL_law_611 (by decide) (fun c124 => ?_) (fun c124 => ?_)
        · have ht := it_p c124 ht
          refine lv_iinc (v := x3 + 5) (lv' := [(3, .int (x3 + 5)), (0, .ref b), (1, .ref (dd 14 0)), (2, .ref (dd 16 0))]) hx hb dL_law_874 hl (k := 3) rfl rfl (by decide) rfl (fun ls hl => ?_)
          refine lv_goto (tgt := 18) hx hb dL_law_877 (by decide) ?_
          exact ih18 (x3 + 5) S0 S1 S2 S3 S4 S5 q120.2 S7 S8 S9 S10 S11 S12 S13 q122.2 _ _ hP hS ls (lv_sub hl [1, 2, 3, 0] rfl) ht
        · have ht := it_n c124 ht
          refine lv_iconst (v := 0) hx hb dL_law_614 (by decide) ?_
          exact absurd (Option.some.inj ht) (by decide)
      have ht := it_n c116 ht
      by_cases c125 : (xs x3.toNatClampNeg) &&& 31 = 16
      · have ht := it_p c125 ht
        refine lv_tableIn (tgt := 616) hx hb dL_law_32 (by rw [c125]; decide) (by rw [c125]; decide) (by rw [c125]; rfl) (by decide) ?_
        refine lv_aload_n hx hb dL_law_616 rfl (lv_at hl 1 rfl) ?_
        obtain ⟨q126, hq126, ht⟩ := it_b ht
        have hPc : va_P D vwCl (wg7 cI cZ (dd 6) S6 ++ (wg8 dd)) H := hP.sub [26, 27, 28, 29, 64] rfl
        have hDc : va_D A (wg7 cI cZ (dd 6) S6 ++ (wg8 dd)) := ((hD S0 S1 S2 S3 S4 S5 S6 S7 S8 S9 S10 S11 S12 S13 S16)).sub [26, 27, 28, 29, 64] (by decide) rfl
        have hFc := va_free (wc := (wg7 cI cZ (dd 6) S6 ++ (wg8 dd))) (hD S0 S1 S2 S3 S4 S5 S6 S7 S8 S9 S10 S11 S12 S13 S16) hS hA [26, 27, 28, 29, 64] rfl
        refine q_mi (va_runV (As := []) (rest := []) ⟨hx, hb, hml, hown, hts⟩ (kX8_forget l D cI cZ cO dd H.size S6 q126 hq126) (cwV 0 hts gL_law_X8_forget rfl rfl rfl (by decide +kernel) ⟨Nat.le_of_ble_eq_true rfl, Nat.le_of_ble_eq_true rfl⟩) (q_mV (As := []) hE hPc hDc (q0 := 4) (ci := 8) rfl rfl) rfl rfl hl.1 rfl (lv_room (Nat.le_of_ble_eq_true rfl)) dL_law_617 ⟨Nat.le_of_ble_eq_true rfl, Nat.le_of_ble_eq_true rfl⟩) hS hFc (fun H locs b127 hP1 hk hS => ?_)
        have hP : va_P D vwCl (wg5 cI cZ (dd 0) S0 ++ (wg4 cI cZ (dd 1) S1 ++ (wg3 (dd 2) (dd 3) (dd 4) S2 ++ (wg5 cI cZ (dd 3) S3 ++ (wg0 cI cZ (dd 4) S4 ++ (wg6 cI cZ (dd 5) S5 ++ (wg7 cI cZ (dd 6) q126.2 ++ (wg2 cI cZ (dd 7) S7 ++ (wg1 (dd 8) (dd 9) (dd 10) S8 ++ (wg5 cI cZ (dd 9) S9 ++ (wg7 cI cZ (dd 10) S10 ++ (wg1 (dd 11) (dd 12) (dd 13) S11 ++ (wg5 cI cZ (dd 12) S12 ++ (wg7 cI cZ (dd 13) S13 ++ (wg8 dd ++ (wgi cO dd ++ (wg9 cI cZ (dd 16) S16))))))))))))))))) H := (q_join (wr := (wg5 cI cZ (dd 0) S0 ++ (wg4 cI cZ (dd 1) S1 ++ (wg3 (dd 2) (dd 3) (dd 4) S2 ++ (wg5 cI cZ (dd 3) S3 ++ (wg0 cI cZ (dd 4) S4 ++ (wg6 cI cZ (dd 5) S5 ++ (wg2 cI cZ (dd 7) S7 ++ (wg1 (dd 8) (dd 9) (dd 10) S8 ++ (wg5 cI cZ (dd 9) S9 ++ (wg7 cI cZ (dd 10) S10 ++ (wg1 (dd 11) (dd 12) (dd 13) S11 ++ (wg5 cI cZ (dd 12) S12 ++ (wg7 cI cZ (dd 13) S13 ++ (wgi cO dd ++ (wg9 cI cZ (dd 16) S16)))))))))))))))) hP (hD S0 S1 S2 S3 S4 S5 S6 S7 S8 S9 S10 S11 S12 S13 S16) [26, 27, 28, 29, 64] [0, 1, 2, 3, 4, 5, 6, 7, 8, 9, 10, 11, 12, 13, 14, 15, 16, 17, 18, 19, 20, 21, 22, 23, 24, 25, 30, 31, 32, 33, 34, 35, 36, 37, 38, 39, 40, 41, 42, 43, 44, 45, 46, 47, 48, 49, 50, 51, 52, 53, 54, 55, 56, 57, 58, 59, 60, 61, 62, 63, 65, 66, 67, 68, 69, 70, 71, 72, 73, 74, 75, 76, 77, 78, 79, 80, 81, 82, 83, 84, 85, 86, 87, 88] rfl rfl (by decide) (by decide) hk hFc hP1 hDc rfl).sub [0, 1, 2, 3, 4, 5, 6, 7, 8, 9, 10, 11, 12, 13, 14, 15, 16, 17, 18, 19, 20, 21, 22, 23, 24, 25, 84, 85, 86, 87, 26, 27, 28, 29, 30, 31, 32, 33, 34, 35, 36, 37, 38, 39, 40, 41, 42, 43, 44, 45, 46, 47, 48, 49, 50, 51, 52, 53, 54, 55, 56, 57, 58, 59, 88, 60, 61, 62, 63, 64, 65, 66, 67, 68, 69, 70, 71, 72, 73, 74, 75, 76, 77, 78, 79, 80, 81, 82, 83] rfl
        refine lv_aload_n hx hb dL_law_620 rfl (lv_at hl 2 rfl) ?_
        obtain ⟨q128, hq128, ht⟩ := it_b ht
        have hPc : va_P D vwCl (wg9 cI cZ (dd 16) S16) H := hP.sub [66, 67, 68, 69, 70, 71, 72, 73, 74, 75, 76, 77, 78, 79, 80, 81, 82, 83, 84, 85, 86, 87, 88] rfl
        have hDc : va_D A (wg9 cI cZ (dd 16) S16) := ((hD S0 S1 S2 S3 S4 S5 q126.2 S7 S8 S9 S10 S11 S12 S13 S16)).sub [66, 67, 68, 69, 70, 71, 72, 73, 74, 75, 76, 77, 78, 79, 80, 81, 82, 83, 84, 85, 86, 87, 88] (by decide) rfl
        have hFc := va_free (wc := (wg9 cI cZ (dd 16) S16)) (hD S0 S1 S2 S3 S4 S5 q126.2 S7 S8 S9 S10 S11 S12 S13 S16) hS hA [66, 67, 68, 69, 70, 71, 72, 73, 74, 75, 76, 77, 78, 79, 80, 81, 82, 83, 84, 85, 86, 87, 88] rfl
        refine q_mi (va_runV (As := []) (rest := [.int q126.1]) ⟨hx, hb, hml, hown, hts⟩ (kX9_forget l D cI cZ cO (dd 16) H.size S16 q128 hq128) (cwV 0 hts gL_law_X9_forget rfl rfl rfl (by decide +kernel) ⟨Nat.le_of_ble_eq_true rfl, Nat.le_of_ble_eq_true rfl⟩) (q_mV (As := []) hE hPc hDc (q0 := 0) (ci := 9) rfl rfl) rfl rfl hl.1 rfl (lv_room (Nat.le_of_ble_eq_true rfl)) dL_law_621 ⟨Nat.le_of_ble_eq_true rfl, Nat.le_of_ble_eq_true rfl⟩) hS hFc (fun H locs b129 hP1 hk hS => ?_)
        have hP : va_P D vwCl (wg5 cI cZ (dd 0) S0 ++ (wg4 cI cZ (dd 1) S1 ++ (wg3 (dd 2) (dd 3) (dd 4) S2 ++ (wg5 cI cZ (dd 3) S3 ++ (wg0 cI cZ (dd 4) S4 ++ (wg6 cI cZ (dd 5) S5 ++ (wg7 cI cZ (dd 6) q126.2 ++ (wg2 cI cZ (dd 7) S7 ++ (wg1 (dd 8) (dd 9) (dd 10) S8 ++ (wg5 cI cZ (dd 9) S9 ++ (wg7 cI cZ (dd 10) S10 ++ (wg1 (dd 11) (dd 12) (dd 13) S11 ++ (wg5 cI cZ (dd 12) S12 ++ (wg7 cI cZ (dd 13) S13 ++ (wg8 dd ++ (wgi cO dd ++ (wg9 cI cZ (dd 16) q128.2))))))))))))))))) H := (q_join (wr := (wg5 cI cZ (dd 0) S0 ++ (wg4 cI cZ (dd 1) S1 ++ (wg3 (dd 2) (dd 3) (dd 4) S2 ++ (wg5 cI cZ (dd 3) S3 ++ (wg0 cI cZ (dd 4) S4 ++ (wg6 cI cZ (dd 5) S5 ++ (wg7 cI cZ (dd 6) q126.2 ++ (wg2 cI cZ (dd 7) S7 ++ (wg1 (dd 8) (dd 9) (dd 10) S8 ++ (wg5 cI cZ (dd 9) S9 ++ (wg7 cI cZ (dd 10) S10 ++ (wg1 (dd 11) (dd 12) (dd 13) S11 ++ (wg5 cI cZ (dd 12) S12 ++ (wg7 cI cZ (dd 13) S13 ++ (wg8 dd ++ (wgi cO dd))))))))))))))))) hP (hD S0 S1 S2 S3 S4 S5 q126.2 S7 S8 S9 S10 S11 S12 S13 S16) [66, 67, 68, 69, 70, 71, 72, 73, 74, 75, 76, 77, 78, 79, 80, 81, 82, 83, 84, 85, 86, 87, 88] [0, 1, 2, 3, 4, 5, 6, 7, 8, 9, 10, 11, 12, 13, 14, 15, 16, 17, 18, 19, 20, 21, 22, 23, 24, 25, 26, 27, 28, 29, 30, 31, 32, 33, 34, 35, 36, 37, 38, 39, 40, 41, 42, 43, 44, 45, 46, 47, 48, 49, 50, 51, 52, 53, 54, 55, 56, 57, 58, 59, 60, 61, 62, 63, 64, 65] rfl rfl (by decide) (by decide) hk hFc hP1 hDc rfl).sub [0, 1, 2, 3, 4, 5, 6, 7, 8, 9, 10, 11, 12, 13, 14, 15, 16, 17, 18, 19, 20, 21, 22, 23, 24, 25, 26, 27, 28, 29, 30, 31, 32, 33, 34, 35, 36, 37, 38, 39, 40, 41, 42, 43, 44, 45, 46, 47, 48, 49, 50, 51, 52, 53, 54, 55, 56, 57, 58, 59, 60, 61, 62, 63, 64, 65, 66, 67, 68, 69, 70, 71, 72, 73, 74, 75, 76, 77, 78, 79, 80, 81, 82, 83, 84, 85, 86, 87, 88] rfl
        refine lv_icmp_eq (tgt := 874) hx hb dL_law_624 (by decide) (fun c130 => ?_) (fun c130 => ?_)
        · have ht := it_p c130 ht
          refine lv_iinc (v := x3 + 5) (lv' := [(3, .int (x3 + 5)), (0, .ref b), (1, .ref (dd 14 0)), (2, .ref (dd 16 0))]) hx hb dL_law_874 hl (k := 3) rfl rfl (by decide) rfl (fun ls hl => ?_)
          refine lv_goto (tgt := 18) hx hb dL_law_877 (by decide) ?_
          exact ih18 (x3 + 5) S0 S1 S2 S3 S4 S5 q126.2 S7 S8 S9 S10 S11 S12 S13 q128.2 _ _ hP hS ls (lv_sub hl [1, 2, 3, 0] rfl) ht
        · have ht := it_n c130 ht
          refine lv_iconst (v := 0) hx hb dL_law_627 (by decide) ?_
          exact absurd (Option.some.inj ht) (by decide)
      have ht := it_n c125 ht
      by_cases c131 : (xs x3.toNatClampNeg) &&& 31 = 17
      · have ht := it_p c131 ht
        refine lv_tableIn (tgt := 629) hx hb dL_law_32 (by rw [c131]; decide) (by rw [c131]; decide) (by rw [c131]; rfl) (by decide) ?_
        refine lv_aload_n hx hb dL_law_629 rfl (lv_at hl 1 rfl) ?_
        refine lv_aload_n hx hb dL_law_630 rfl (lv_at hl 0 rfl) ?_
        refine lv_iload_n hx hb dL_law_631 rfl (lv_at hl 3 rfl) ?_
        refine lv_iconst (v := 1) hx hb dL_law_632 (by decide) ?_
        refine lv_iadd hx hb dL_law_633 ?_
        obtain ⟨g132, ht⟩ := it_g ht
        refine va_sld hx hb hX hbl hbA hS (q_in g132) dL_law_634 ?_
        obtain ⟨q133, hq133, ht⟩ := it_b ht
        have hPc : va_P D vwCl (wg7 cI cZ (dd 6) S6 ++ (wg2 cI cZ (dd 7) S7 ++ (wg8 dd))) H := hP.sub [26, 27, 28, 29, 30, 31, 32, 33, 64] rfl
        have hDc : va_D A (wg7 cI cZ (dd 6) S6 ++ (wg2 cI cZ (dd 7) S7 ++ (wg8 dd))) := ((hD S0 S1 S2 S3 S4 S5 S6 S7 S8 S9 S10 S11 S12 S13 S16)).sub [26, 27, 28, 29, 30, 31, 32, 33, 64] (by decide) rfl
        have hFc := va_free (wc := (wg7 cI cZ (dd 6) S6 ++ (wg2 cI cZ (dd 7) S7 ++ (wg8 dd)))) (hD S0 S1 S2 S3 S4 S5 S6 S7 S8 S9 S10 S11 S12 S13 S16) hS hA [26, 27, 28, 29, 30, 31, 32, 33, 64] rfl
        refine q_mi (va_runV (As := [.int (xs (x3 + 1).toNatClampNeg)]) (rest := []) ⟨hx, hb, hml, hown, hts⟩ (kX8_nets l D cI cZ cO dd H.size S6 S7 (xs (x3 + 1).toNatClampNeg) q133 hq133) (cwV 1 hts gL_law_X8_nets rfl rfl rfl (by decide +kernel) ⟨Nat.le_of_ble_eq_true rfl, Nat.le_of_ble_eq_true rfl⟩) (q_mV (As := [.int (xs (x3 + 1).toNatClampNeg)]) hE hPc hDc (q0 := 8) (ci := 8) rfl rfl) rfl rfl hl.1 rfl (lv_room (Nat.le_of_ble_eq_true rfl)) dL_law_635 ⟨Nat.le_of_ble_eq_true rfl, Nat.le_of_ble_eq_true rfl⟩) hS hFc (fun H locs b134 hP1 hk hS => ?_)
        have hP : va_P D vwCl (wg5 cI cZ (dd 0) S0 ++ (wg4 cI cZ (dd 1) S1 ++ (wg3 (dd 2) (dd 3) (dd 4) S2 ++ (wg5 cI cZ (dd 3) S3 ++ (wg0 cI cZ (dd 4) S4 ++ (wg6 cI cZ (dd 5) S5 ++ (wg7 cI cZ (dd 6) S6 ++ (wg2 cI cZ (dd 7) q133.2 ++ (wg1 (dd 8) (dd 9) (dd 10) S8 ++ (wg5 cI cZ (dd 9) S9 ++ (wg7 cI cZ (dd 10) S10 ++ (wg1 (dd 11) (dd 12) (dd 13) S11 ++ (wg5 cI cZ (dd 12) S12 ++ (wg7 cI cZ (dd 13) S13 ++ (wg8 dd ++ (wgi cO dd ++ (wg9 cI cZ (dd 16) S16))))))))))))))))) H := (q_join (wr := (wg5 cI cZ (dd 0) S0 ++ (wg4 cI cZ (dd 1) S1 ++ (wg3 (dd 2) (dd 3) (dd 4) S2 ++ (wg5 cI cZ (dd 3) S3 ++ (wg0 cI cZ (dd 4) S4 ++ (wg6 cI cZ (dd 5) S5 ++ (wg1 (dd 8) (dd 9) (dd 10) S8 ++ (wg5 cI cZ (dd 9) S9 ++ (wg7 cI cZ (dd 10) S10 ++ (wg1 (dd 11) (dd 12) (dd 13) S11 ++ (wg5 cI cZ (dd 12) S12 ++ (wg7 cI cZ (dd 13) S13 ++ (wgi cO dd ++ (wg9 cI cZ (dd 16) S16))))))))))))))) hP (hD S0 S1 S2 S3 S4 S5 S6 S7 S8 S9 S10 S11 S12 S13 S16) [26, 27, 28, 29, 30, 31, 32, 33, 64] [0, 1, 2, 3, 4, 5, 6, 7, 8, 9, 10, 11, 12, 13, 14, 15, 16, 17, 18, 19, 20, 21, 22, 23, 24, 25, 34, 35, 36, 37, 38, 39, 40, 41, 42, 43, 44, 45, 46, 47, 48, 49, 50, 51, 52, 53, 54, 55, 56, 57, 58, 59, 60, 61, 62, 63, 65, 66, 67, 68, 69, 70, 71, 72, 73, 74, 75, 76, 77, 78, 79, 80, 81, 82, 83, 84, 85, 86, 87, 88] rfl rfl (by decide) (by decide) hk hFc hP1 hDc rfl).sub [0, 1, 2, 3, 4, 5, 6, 7, 8, 9, 10, 11, 12, 13, 14, 15, 16, 17, 18, 19, 20, 21, 22, 23, 24, 25, 80, 81, 82, 83, 84, 85, 86, 87, 26, 27, 28, 29, 30, 31, 32, 33, 34, 35, 36, 37, 38, 39, 40, 41, 42, 43, 44, 45, 46, 47, 48, 49, 50, 51, 52, 53, 54, 55, 88, 56, 57, 58, 59, 60, 61, 62, 63, 64, 65, 66, 67, 68, 69, 70, 71, 72, 73, 74, 75, 76, 77, 78, 79] rfl
        refine lv_aload_n hx hb dL_law_638 rfl (lv_at hl 2 rfl) ?_
        refine lv_aload_n hx hb dL_law_639 rfl (lv_at hl 0 rfl) ?_
        refine lv_iload_n hx hb dL_law_640 rfl (lv_at hl 3 rfl) ?_
        refine lv_iconst (v := 1) hx hb dL_law_641 (by decide) ?_
        refine lv_iadd hx hb dL_law_642 ?_
        refine va_sld hx hb hX hbl hbA hS (q_in g132) dL_law_643 ?_
        obtain ⟨q135, hq135, ht⟩ := it_b ht
        have hPc : va_P D vwCl (wg9 cI cZ (dd 16) S16) H := hP.sub [66, 67, 68, 69, 70, 71, 72, 73, 74, 75, 76, 77, 78, 79, 80, 81, 82, 83, 84, 85, 86, 87, 88] rfl
        refine q_ri (va_runV (As := [.int (xs (x3 + 1).toNatClampNeg)]) (rest := [.int q133.1]) ⟨hx, hb, hml, hown, hts⟩ (kX9_nets l D cI cZ cO (dd 16) S16 (xs (x3 + 1).toNatClampNeg) q135 hq135) (cwV 1 hts gL_law_X9_nets rfl rfl rfl (by decide +kernel) ⟨Nat.le_of_ble_eq_true rfl, Nat.le_of_ble_eq_true rfl⟩) (q_rV (As := [.int (xs (x3 + 1).toNatClampNeg)]) hE hPc (q0 := 0) (ci := 9) rfl rfl) rfl rfl hl.1 rfl (lv_room (Nat.le_of_ble_eq_true rfl)) dL_law_644 ⟨Nat.le_of_ble_eq_true rfl, Nat.le_of_ble_eq_true rfl⟩) (fun b136 => ?_)
        refine lv_icmp_eq (tgt := 874) hx hb dL_law_647 (by decide) (fun c137 => ?_) (fun c137 => ?_)
        · have ht := it_p c137 ht
          refine lv_iinc (v := x3 + 5) (lv' := [(3, .int (x3 + 5)), (0, .ref b), (1, .ref (dd 14 0)), (2, .ref (dd 16 0))]) hx hb dL_law_874 hl (k := 3) rfl rfl (by decide) rfl (fun ls hl => ?_)
          refine lv_goto (tgt := 18) hx hb dL_law_877 (by decide) ?_
          exact ih18 (x3 + 5) S0 S1 S2 S3 S4 S5 S6 q133.2 S8 S9 S10 S11 S12 S13 S16 _ _ hP hS ls (lv_sub hl [1, 2, 3, 0] rfl) ht
        · have ht := it_n c137 ht
          refine lv_iconst (v := 0) hx hb dL_law_650 (by decide) ?_
          exact absurd (Option.some.inj ht) (by decide)
      have ht := it_n c131 ht
      by_cases c138 : (xs x3.toNatClampNeg) &&& 31 = 18
      · have ht := it_p c138 ht
        refine lv_tableIn (tgt := 652) hx hb dL_law_32 (by rw [c138]; decide) (by rw [c138]; decide) (by rw [c138]; rfl) (by decide) ?_
        refine lv_aload_n hx hb dL_law_652 rfl (lv_at hl 1 rfl) ?_
        refine lv_aload_n hx hb dL_law_653 rfl (lv_at hl 0 rfl) ?_
        refine lv_iload_n hx hb dL_law_654 rfl (lv_at hl 3 rfl) ?_
        refine lv_iconst (v := 1) hx hb dL_law_655 (by decide) ?_
        refine lv_iadd hx hb dL_law_656 ?_
        obtain ⟨g139, ht⟩ := it_g ht
        refine va_sld hx hb hX hbl hbA hS (q_in g139) dL_law_657 ?_
        obtain ⟨q140, hq140, ht⟩ := it_b ht
        have hPc : va_P D vwCl (wg7 cI cZ (dd 6) S6 ++ (wg2 cI cZ (dd 7) S7 ++ (wg8 dd))) H := hP.sub [26, 27, 28, 29, 30, 31, 32, 33, 64] rfl
        have hDc : va_D A (wg7 cI cZ (dd 6) S6 ++ (wg2 cI cZ (dd 7) S7 ++ (wg8 dd))) := ((hD S0 S1 S2 S3 S4 S5 S6 S7 S8 S9 S10 S11 S12 S13 S16)).sub [26, 27, 28, 29, 30, 31, 32, 33, 64] (by decide) rfl
        have hFc := va_free (wc := (wg7 cI cZ (dd 6) S6 ++ (wg2 cI cZ (dd 7) S7 ++ (wg8 dd)))) (hD S0 S1 S2 S3 S4 S5 S6 S7 S8 S9 S10 S11 S12 S13 S16) hS hA [26, 27, 28, 29, 30, 31, 32, 33, 64] rfl
        refine q_mi (va_runV (As := [.int (xs (x3 + 1).toNatClampNeg)]) (rest := []) ⟨hx, hb, hml, hown, hts⟩ (kX8_ask l D cI cZ cO dd H.size S6 S7 (xs (x3 + 1).toNatClampNeg) q140 hq140) (cwV 1 hts gL_law_X8_ask rfl rfl rfl (by decide +kernel) ⟨Nat.le_of_ble_eq_true rfl, Nat.le_of_ble_eq_true rfl⟩) (q_mV (As := [.int (xs (x3 + 1).toNatClampNeg)]) hE hPc hDc (q0 := 8) (ci := 8) rfl rfl) rfl rfl hl.1 rfl (lv_room (Nat.le_of_ble_eq_true rfl)) dL_law_658 ⟨Nat.le_of_ble_eq_true rfl, Nat.le_of_ble_eq_true rfl⟩) hS hFc (fun H locs b141 hP1 hk hS => ?_)
        have hP : va_P D vwCl (wg5 cI cZ (dd 0) S0 ++ (wg4 cI cZ (dd 1) S1 ++ (wg3 (dd 2) (dd 3) (dd 4) S2 ++ (wg5 cI cZ (dd 3) S3 ++ (wg0 cI cZ (dd 4) S4 ++ (wg6 cI cZ (dd 5) S5 ++ (wg7 cI cZ (dd 6) S6 ++ (wg2 cI cZ (dd 7) q140.2 ++ (wg1 (dd 8) (dd 9) (dd 10) S8 ++ (wg5 cI cZ (dd 9) S9 ++ (wg7 cI cZ (dd 10) S10 ++ (wg1 (dd 11) (dd 12) (dd 13) S11 ++ (wg5 cI cZ (dd 12) S12 ++ (wg7 cI cZ (dd 13) S13 ++ (wg8 dd ++ (wgi cO dd ++ (wg9 cI cZ (dd 16) S16))))))))))))))))) H := (q_join (wr := (wg5 cI cZ (dd 0) S0 ++ (wg4 cI cZ (dd 1) S1 ++ (wg3 (dd 2) (dd 3) (dd 4) S2 ++ (wg5 cI cZ (dd 3) S3 ++ (wg0 cI cZ (dd 4) S4 ++ (wg6 cI cZ (dd 5) S5 ++ (wg1 (dd 8) (dd 9) (dd 10) S8 ++ (wg5 cI cZ (dd 9) S9 ++ (wg7 cI cZ (dd 10) S10 ++ (wg1 (dd 11) (dd 12) (dd 13) S11 ++ (wg5 cI cZ (dd 12) S12 ++ (wg7 cI cZ (dd 13) S13 ++ (wgi cO dd ++ (wg9 cI cZ (dd 16) S16))))))))))))))) hP (hD S0 S1 S2 S3 S4 S5 S6 S7 S8 S9 S10 S11 S12 S13 S16) [26, 27, 28, 29, 30, 31, 32, 33, 64] [0, 1, 2, 3, 4, 5, 6, 7, 8, 9, 10, 11, 12, 13, 14, 15, 16, 17, 18, 19, 20, 21, 22, 23, 24, 25, 34, 35, 36, 37, 38, 39, 40, 41, 42, 43, 44, 45, 46, 47, 48, 49, 50, 51, 52, 53, 54, 55, 56, 57, 58, 59, 60, 61, 62, 63, 65, 66, 67, 68, 69, 70, 71, 72, 73, 74, 75, 76, 77, 78, 79, 80, 81, 82, 83, 84, 85, 86, 87, 88] rfl rfl (by decide) (by decide) hk hFc hP1 hDc rfl).sub [0, 1, 2, 3, 4, 5, 6, 7, 8, 9, 10, 11, 12, 13, 14, 15, 16, 17, 18, 19, 20, 21, 22, 23, 24, 25, 80, 81, 82, 83, 84, 85, 86, 87, 26, 27, 28, 29, 30, 31, 32, 33, 34, 35, 36, 37, 38, 39, 40, 41, 42, 43, 44, 45, 46, 47, 48, 49, 50, 51, 52, 53, 54, 55, 88, 56, 57, 58, 59, 60, 61, 62, 63, 64, 65, 66, 67, 68, 69, 70, 71, 72, 73, 74, 75, 76, 77, 78, 79] rfl
        refine lv_aload_n hx hb dL_law_661 rfl (lv_at hl 2 rfl) ?_
        refine lv_aload_n hx hb dL_law_662 rfl (lv_at hl 0 rfl) ?_
        refine lv_iload_n hx hb dL_law_663 rfl (lv_at hl 3 rfl) ?_
        refine lv_iconst (v := 1) hx hb dL_law_664 (by decide) ?_
        refine lv_iadd hx hb dL_law_665 ?_
        refine va_sld hx hb hX hbl hbA hS (q_in g139) dL_law_666 ?_
        obtain ⟨q142, hq142, ht⟩ := it_b ht
        have hPc : va_P D vwCl (wg9 cI cZ (dd 16) S16) H := hP.sub [66, 67, 68, 69, 70, 71, 72, 73, 74, 75, 76, 77, 78, 79, 80, 81, 82, 83, 84, 85, 86, 87, 88] rfl
        have hDc : va_D A (wg9 cI cZ (dd 16) S16) := ((hD S0 S1 S2 S3 S4 S5 S6 q140.2 S8 S9 S10 S11 S12 S13 S16)).sub [66, 67, 68, 69, 70, 71, 72, 73, 74, 75, 76, 77, 78, 79, 80, 81, 82, 83, 84, 85, 86, 87, 88] (by decide) rfl
        have hFc := va_free (wc := (wg9 cI cZ (dd 16) S16)) (hD S0 S1 S2 S3 S4 S5 S6 q140.2 S8 S9 S10 S11 S12 S13 S16) hS hA [66, 67, 68, 69, 70, 71, 72, 73, 74, 75, 76, 77, 78, 79, 80, 81, 82, 83, 84, 85, 86, 87, 88] rfl
        refine q_mi (va_runV (As := [.int (xs (x3 + 1).toNatClampNeg)]) (rest := [.int q140.1]) ⟨hx, hb, hml, hown, hts⟩ (kX9_ask l D cI cZ cO (dd 16) H.size S16 (xs (x3 + 1).toNatClampNeg) q142 hq142) (cwV 1 hts gL_law_X9_ask rfl rfl rfl (by decide +kernel) ⟨Nat.le_of_ble_eq_true rfl, Nat.le_of_ble_eq_true rfl⟩) (q_mV (As := [.int (xs (x3 + 1).toNatClampNeg)]) hE hPc hDc (q0 := 0) (ci := 9) rfl rfl) rfl rfl hl.1 rfl (lv_room (Nat.le_of_ble_eq_true rfl)) dL_law_667 ⟨Nat.le_of_ble_eq_true rfl, Nat.le_of_ble_eq_true rfl⟩) hS hFc (fun H locs b143 hP1 hk hS => ?_)
        have hP : va_P D vwCl (wg5 cI cZ (dd 0) S0 ++ (wg4 cI cZ (dd 1) S1 ++ (wg3 (dd 2) (dd 3) (dd 4) S2 ++ (wg5 cI cZ (dd 3) S3 ++ (wg0 cI cZ (dd 4) S4 ++ (wg6 cI cZ (dd 5) S5 ++ (wg7 cI cZ (dd 6) S6 ++ (wg2 cI cZ (dd 7) q140.2 ++ (wg1 (dd 8) (dd 9) (dd 10) S8 ++ (wg5 cI cZ (dd 9) S9 ++ (wg7 cI cZ (dd 10) S10 ++ (wg1 (dd 11) (dd 12) (dd 13) S11 ++ (wg5 cI cZ (dd 12) S12 ++ (wg7 cI cZ (dd 13) S13 ++ (wg8 dd ++ (wgi cO dd ++ (wg9 cI cZ (dd 16) q142.2))))))))))))))))) H := (q_join (wr := (wg5 cI cZ (dd 0) S0 ++ (wg4 cI cZ (dd 1) S1 ++ (wg3 (dd 2) (dd 3) (dd 4) S2 ++ (wg5 cI cZ (dd 3) S3 ++ (wg0 cI cZ (dd 4) S4 ++ (wg6 cI cZ (dd 5) S5 ++ (wg7 cI cZ (dd 6) S6 ++ (wg2 cI cZ (dd 7) q140.2 ++ (wg1 (dd 8) (dd 9) (dd 10) S8 ++ (wg5 cI cZ (dd 9) S9 ++ (wg7 cI cZ (dd 10) S10 ++ (wg1 (dd 11) (dd 12) (dd 13) S11 ++ (wg5 cI cZ (dd 12) S12 ++ (wg7 cI cZ (dd 13) S13 ++ (wg8 dd ++ (wgi cO dd))))))))))))))))) hP (hD S0 S1 S2 S3 S4 S5 S6 q140.2 S8 S9 S10 S11 S12 S13 S16) [66, 67, 68, 69, 70, 71, 72, 73, 74, 75, 76, 77, 78, 79, 80, 81, 82, 83, 84, 85, 86, 87, 88] [0, 1, 2, 3, 4, 5, 6, 7, 8, 9, 10, 11, 12, 13, 14, 15, 16, 17, 18, 19, 20, 21, 22, 23, 24, 25, 26, 27, 28, 29, 30, 31, 32, 33, 34, 35, 36, 37, 38, 39, 40, 41, 42, 43, 44, 45, 46, 47, 48, 49, 50, 51, 52, 53, 54, 55, 56, 57, 58, 59, 60, 61, 62, 63, 64, 65] rfl rfl (by decide) (by decide) hk hFc hP1 hDc rfl).sub [0, 1, 2, 3, 4, 5, 6, 7, 8, 9, 10, 11, 12, 13, 14, 15, 16, 17, 18, 19, 20, 21, 22, 23, 24, 25, 26, 27, 28, 29, 30, 31, 32, 33, 34, 35, 36, 37, 38, 39, 40, 41, 42, 43, 44, 45, 46, 47, 48, 49, 50, 51, 52, 53, 54, 55, 56, 57, 58, 59, 60, 61, 62, 63, 64, 65, 66, 67, 68, 69, 70, 71, 72, 73, 74, 75, 76, 77, 78, 79, 80, 81, 82, 83, 84, 85, 86, 87, 88] rfl
        refine lv_icmp_eq (tgt := 874) hx hb dL_law_670 (by decide) (fun c144 => ?_) (fun c144 => ?_)
        · have ht := it_p c144 ht
          refine lv_iinc (v := x3 + 5) (lv' := [(3, .int (x3 + 5)), (0, .ref b), (1, .ref (dd 14 0)), (2, .ref (dd 16 0))]) hx hb dL_law_874 hl (k := 3) rfl rfl (by decide) rfl (fun ls hl => ?_)
          refine lv_goto (tgt := 18) hx hb dL_law_877 (by decide) ?_
          exact ih18 (x3 + 5) S0 S1 S2 S3 S4 S5 S6 q140.2 S8 S9 S10 S11 S12 S13 q142.2 _ _ hP hS ls (lv_sub hl [1, 2, 3, 0] rfl) ht
        · have ht := it_n c144 ht
          refine lv_iconst (v := 0) hx hb dL_law_673 (by decide) ?_
          exact absurd (Option.some.inj ht) (by decide)
      have ht := it_n c138 ht
      by_cases c145 : (xs x3.toNatClampNeg) &&& 31 = 19
      · have ht := it_p c145 ht
        refine lv_tableIn (tgt := 675) hx hb dL_law_32 (by rw [c145]; decide) (by rw [c145]; decide) (by rw [c145]; rfl) (by decide) ?_
        refine lv_aload_n hx hb dL_law_675 rfl (lv_at hl 1 rfl) ?_
        refine lv_aload_n hx hb dL_law_676 rfl (lv_at hl 0 rfl) ?_
        refine lv_iload_n hx hb dL_law_677 rfl (lv_at hl 3 rfl) ?_
        refine lv_iconst (v := 1) hx hb dL_law_678 (by decide) ?_
        refine lv_iadd hx hb dL_law_679 ?_
        obtain ⟨g146, ht⟩ := it_g ht
        refine va_sld hx hb hX hbl hbA hS (q_in g146) dL_law_680 ?_
        refine lv_aload_n hx hb dL_law_681 rfl (lv_at hl 0 rfl) ?_
        refine lv_iload_n hx hb dL_law_682 rfl (lv_at hl 3 rfl) ?_
        refine lv_iconst (v := 2) hx hb dL_law_683 (by decide) ?_
        refine lv_iadd hx hb dL_law_684 ?_
        obtain ⟨g147, ht⟩ := it_g ht
        refine va_sld hx hb hX hbl hbA hS (q_in g147) dL_law_685 ?_
        obtain ⟨q148, hq148, ht⟩ := it_b ht
        have hPc : va_P D vwCl (wg8 dd) H := hP.sub [64] rfl
        refine q_ri (va_runV (As := [.int (xs (x3 + 1).toNatClampNeg), .int (xs (x3 + 2).toNatClampNeg)]) (rest := []) ⟨hx, hb, hml, hown, hts⟩ (kX8_roots l D cI cZ cO dd (xs (x3 + 1).toNatClampNeg) (xs (x3 + 2).toNatClampNeg) q148 hq148) (cwV 2 hts gL_law_X8_roots rfl rfl rfl (by decide +kernel) ⟨Nat.le_of_ble_eq_true rfl, Nat.le_of_ble_eq_true rfl⟩) (q_rV (As := [.int (xs (x3 + 1).toNatClampNeg), .int (xs (x3 + 2).toNatClampNeg)]) hE hPc (q0 := 0) (ci := 8) rfl rfl) rfl rfl hl.1 rfl (lv_room (Nat.le_of_ble_eq_true rfl)) dL_law_686 ⟨Nat.le_of_ble_eq_true rfl, Nat.le_of_ble_eq_true rfl⟩) (fun b149 => ?_)
        refine lv_aload_n hx hb dL_law_689 rfl (lv_at hl 2 rfl) ?_
        refine lv_aload_n hx hb dL_law_690 rfl (lv_at hl 0 rfl) ?_
        refine lv_iload_n hx hb dL_law_691 rfl (lv_at hl 3 rfl) ?_
        refine lv_iconst (v := 1) hx hb dL_law_692 (by decide) ?_
        refine lv_iadd hx hb dL_law_693 ?_
        refine va_sld hx hb hX hbl hbA hS (q_in g146) dL_law_694 ?_
        refine lv_aload_n hx hb dL_law_695 rfl (lv_at hl 0 rfl) ?_
        refine lv_iload_n hx hb dL_law_696 rfl (lv_at hl 3 rfl) ?_
        refine lv_iconst (v := 2) hx hb dL_law_697 (by decide) ?_
        refine lv_iadd hx hb dL_law_698 ?_
        refine va_sld hx hb hX hbl hbA hS (q_in g147) dL_law_699 ?_
        obtain ⟨q150, hq150, ht⟩ := it_b ht
        have hPc : va_P D vwCl (wg9 cI cZ (dd 16) S16) H := hP.sub [66, 67, 68, 69, 70, 71, 72, 73, 74, 75, 76, 77, 78, 79, 80, 81, 82, 83, 84, 85, 86, 87, 88] rfl
        have hDc : va_D A (wg9 cI cZ (dd 16) S16) := ((hD S0 S1 S2 S3 S4 S5 S6 S7 S8 S9 S10 S11 S12 S13 S16)).sub [66, 67, 68, 69, 70, 71, 72, 73, 74, 75, 76, 77, 78, 79, 80, 81, 82, 83, 84, 85, 86, 87, 88] (by decide) rfl
        have hFc := va_free (wc := (wg9 cI cZ (dd 16) S16)) (hD S0 S1 S2 S3 S4 S5 S6 S7 S8 S9 S10 S11 S12 S13 S16) hS hA [66, 67, 68, 69, 70, 71, 72, 73, 74, 75, 76, 77, 78, 79, 80, 81, 82, 83, 84, 85, 86, 87, 88] rfl
        refine q_mi (va_runV (As := [.int (xs (x3 + 1).toNatClampNeg), .int (xs (x3 + 2).toNatClampNeg)]) (rest := [.int q148]) ⟨hx, hb, hml, hown, hts⟩ (kX9_roots l D cI cZ cO (dd 16) H.size S16 (xs (x3 + 1).toNatClampNeg) (xs (x3 + 2).toNatClampNeg) q150 hq150) (cwV 2 hts gL_law_X9_roots rfl rfl rfl (by decide +kernel) ⟨Nat.le_of_ble_eq_true rfl, Nat.le_of_ble_eq_true rfl⟩) (q_mV (As := [.int (xs (x3 + 1).toNatClampNeg), .int (xs (x3 + 2).toNatClampNeg)]) hE hPc hDc (q0 := 0) (ci := 9) rfl rfl) rfl rfl hl.1 rfl (lv_room (Nat.le_of_ble_eq_true rfl)) dL_law_700 ⟨Nat.le_of_ble_eq_true rfl, Nat.le_of_ble_eq_true rfl⟩) hS hFc (fun H locs b151 hP1 hk hS => ?_)
        have hP : va_P D vwCl (wg5 cI cZ (dd 0) S0 ++ (wg4 cI cZ (dd 1) S1 ++ (wg3 (dd 2) (dd 3) (dd 4) S2 ++ (wg5 cI cZ (dd 3) S3 ++ (wg0 cI cZ (dd 4) S4 ++ (wg6 cI cZ (dd 5) S5 ++ (wg7 cI cZ (dd 6) S6 ++ (wg2 cI cZ (dd 7) S7 ++ (wg1 (dd 8) (dd 9) (dd 10) S8 ++ (wg5 cI cZ (dd 9) S9 ++ (wg7 cI cZ (dd 10) S10 ++ (wg1 (dd 11) (dd 12) (dd 13) S11 ++ (wg5 cI cZ (dd 12) S12 ++ (wg7 cI cZ (dd 13) S13 ++ (wg8 dd ++ (wgi cO dd ++ (wg9 cI cZ (dd 16) q150.2))))))))))))))))) H := (q_join (wr := (wg5 cI cZ (dd 0) S0 ++ (wg4 cI cZ (dd 1) S1 ++ (wg3 (dd 2) (dd 3) (dd 4) S2 ++ (wg5 cI cZ (dd 3) S3 ++ (wg0 cI cZ (dd 4) S4 ++ (wg6 cI cZ (dd 5) S5 ++ (wg7 cI cZ (dd 6) S6 ++ (wg2 cI cZ (dd 7) S7 ++ (wg1 (dd 8) (dd 9) (dd 10) S8 ++ (wg5 cI cZ (dd 9) S9 ++ (wg7 cI cZ (dd 10) S10 ++ (wg1 (dd 11) (dd 12) (dd 13) S11 ++ (wg5 cI cZ (dd 12) S12 ++ (wg7 cI cZ (dd 13) S13 ++ (wg8 dd ++ (wgi cO dd))))))))))))))))) hP (hD S0 S1 S2 S3 S4 S5 S6 S7 S8 S9 S10 S11 S12 S13 S16) [66, 67, 68, 69, 70, 71, 72, 73, 74, 75, 76, 77, 78, 79, 80, 81, 82, 83, 84, 85, 86, 87, 88] [0, 1, 2, 3, 4, 5, 6, 7, 8, 9, 10, 11, 12, 13, 14, 15, 16, 17, 18, 19, 20, 21, 22, 23, 24, 25, 26, 27, 28, 29, 30, 31, 32, 33, 34, 35, 36, 37, 38, 39, 40, 41, 42, 43, 44, 45, 46, 47, 48, 49, 50, 51, 52, 53, 54, 55, 56, 57, 58, 59, 60, 61, 62, 63, 64, 65] rfl rfl (by decide) (by decide) hk hFc hP1 hDc rfl).sub [0, 1, 2, 3, 4, 5, 6, 7, 8, 9, 10, 11, 12, 13, 14, 15, 16, 17, 18, 19, 20, 21, 22, 23, 24, 25, 26, 27, 28, 29, 30, 31, 32, 33, 34, 35, 36, 37, 38, 39, 40, 41, 42, 43, 44, 45, 46, 47, 48, 49, 50, 51, 52, 53, 54, 55, 56, 57, 58, 59, 60, 61, 62, 63, 64, 65, 66, 67, 68, 69, 70, 71, 72, 73, 74, 75, 76, 77, 78, 79, 80, 81, 82, 83, 84, 85, 86, 87, 88] rfl
        refine lv_icmp_eq (tgt := 874) hx hb dL_law_703 (by decide) (fun c152 => ?_) (fun c152 => ?_)
        · have ht := it_p c152 ht
          refine lv_iinc (v := x3 + 5) (lv' := [(3, .int (x3 + 5)), (0, .ref b), (1, .ref (dd 14 0)), (2, .ref (dd 16 0))]) hx hb dL_law_874 hl (k := 3) rfl rfl (by decide) rfl (fun ls hl => ?_)
          refine lv_goto (tgt := 18) hx hb dL_law_877 (by decide) ?_
          exact ih18 (x3 + 5) S0 S1 S2 S3 S4 S5 S6 S7 S8 S9 S10 S11 S12 S13 q150.2 _ _ hP hS ls (lv_sub hl [1, 2, 3, 0] rfl) ht
        · have ht := it_n c152 ht
          refine lv_iconst (v := 0) hx hb dL_law_706 (by decide) ?_
          exact absurd (Option.some.inj ht) (by decide)
      have ht := it_n c145 ht
      by_cases c153 : (xs x3.toNatClampNeg) &&& 31 = 20
      · have ht := it_p c153 ht
        refine lv_tableIn (tgt := 708) hx hb dL_law_32 (by rw [c153]; decide) (by rw [c153]; decide) (by rw [c153]; rfl) (by decide) ?_
        refine lv_aload_n hx hb dL_law_708 rfl (lv_at hl 1 rfl) ?_
        refine lv_aload_n hx hb dL_law_709 rfl (lv_at hl 0 rfl) ?_
        refine lv_iload_n hx hb dL_law_710 rfl (lv_at hl 3 rfl) ?_
        refine lv_iconst (v := 1) hx hb dL_law_711 (by decide) ?_
        refine lv_iadd hx hb dL_law_712 ?_
        obtain ⟨g154, ht⟩ := it_g ht
        refine va_sld hx hb hX hbl hbA hS (q_in g154) dL_law_713 ?_
        refine lv_aload_n hx hb dL_law_714 rfl (lv_at hl 0 rfl) ?_
        refine lv_iload_n hx hb dL_law_715 rfl (lv_at hl 3 rfl) ?_
        refine lv_iconst (v := 2) hx hb dL_law_716 (by decide) ?_
        refine lv_iadd hx hb dL_law_717 ?_
        obtain ⟨g155, ht⟩ := it_g ht
        refine va_sld hx hb hX hbl hbA hS (q_in g155) dL_law_718 ?_
        refine lv_aload_n hx hb dL_law_719 rfl (lv_at hl 0 rfl) ?_
        refine lv_iload_n hx hb dL_law_720 rfl (lv_at hl 3 rfl) ?_
        refine lv_iconst (v := 3) hx hb dL_law_721 (by decide) ?_
        refine lv_iadd hx hb dL_law_722 ?_
        obtain ⟨g156, ht⟩ := it_g ht
        refine va_sld hx hb hX hbl hbA hS (q_in g156) dL_law_723 ?_
        refine lv_aload_n hx hb dL_law_724 rfl (lv_at hl 0 rfl) ?_
        refine lv_iload_n hx hb dL_law_725 rfl (lv_at hl 3 rfl) ?_
        refine lv_iconst (v := 4) hx hb dL_law_726 (by decide) ?_
        refine lv_iadd hx hb dL_law_727 ?_
        obtain ⟨g157, ht⟩ := it_g ht
        refine va_sld hx hb hX hbl hbA hS (q_in g157) dL_law_728 ?_
        obtain ⟨q158, hq158, ht⟩ := it_b ht
        have hPc : va_P D vwCl (wg8 dd) H := hP.sub [64] rfl
        refine q_rl (va_runV (As := [.int (xs (x3 + 1).toNatClampNeg), .int (xs (x3 + 2).toNatClampNeg), .int (xs (x3 + 3).toNatClampNeg), .int (xs (x3 + 4).toNatClampNeg)]) (rest := []) ⟨hx, hb, hml, hown, hts⟩ (kX8_thought l D cI cZ cO dd (xs (x3 + 1).toNatClampNeg) (xs (x3 + 2).toNatClampNeg) (xs (x3 + 3).toNatClampNeg) (xs (x3 + 4).toNatClampNeg) q158 hq158) (cwV 4 hts gL_law_X8_thought rfl rfl rfl (by decide +kernel) ⟨Nat.le_of_ble_eq_true rfl, Nat.le_of_ble_eq_true rfl⟩) (q_rV (As := [.int (xs (x3 + 1).toNatClampNeg), .int (xs (x3 + 2).toNatClampNeg), .int (xs (x3 + 3).toNatClampNeg), .int (xs (x3 + 4).toNatClampNeg)]) hE hPc (q0 := 0) (ci := 8) rfl rfl) rfl rfl hl.1 rfl (lv_room (Nat.le_of_ble_eq_true rfl)) dL_law_729 ⟨Nat.le_of_ble_eq_true rfl, Nat.le_of_ble_eq_true rfl⟩) ?_
        refine lv_aload_n hx hb dL_law_732 rfl (lv_at hl 2 rfl) ?_
        refine lv_aload_n hx hb dL_law_733 rfl (lv_at hl 0 rfl) ?_
        refine lv_iload_n hx hb dL_law_734 rfl (lv_at hl 3 rfl) ?_
        refine lv_iconst (v := 1) hx hb dL_law_735 (by decide) ?_
        refine lv_iadd hx hb dL_law_736 ?_
        refine va_sld hx hb hX hbl hbA hS (q_in g154) dL_law_737 ?_
        refine lv_aload_n hx hb dL_law_738 rfl (lv_at hl 0 rfl) ?_
        refine lv_iload_n hx hb dL_law_739 rfl (lv_at hl 3 rfl) ?_
        refine lv_iconst (v := 2) hx hb dL_law_740 (by decide) ?_
        refine lv_iadd hx hb dL_law_741 ?_
        refine va_sld hx hb hX hbl hbA hS (q_in g155) dL_law_742 ?_
        refine lv_aload_n hx hb dL_law_743 rfl (lv_at hl 0 rfl) ?_
        refine lv_iload_n hx hb dL_law_744 rfl (lv_at hl 3 rfl) ?_
        refine lv_iconst (v := 3) hx hb dL_law_745 (by decide) ?_
        refine lv_iadd hx hb dL_law_746 ?_
        refine va_sld hx hb hX hbl hbA hS (q_in g156) dL_law_747 ?_
        refine lv_aload_n hx hb dL_law_748 rfl (lv_at hl 0 rfl) ?_
        refine lv_iload_n hx hb dL_law_749 rfl (lv_at hl 3 rfl) ?_
        refine lv_iconst (v := 4) hx hb dL_law_750 (by decide) ?_
        refine lv_iadd hx hb dL_law_751 ?_
        refine va_sld hx hb hX hbl hbA hS (q_in g157) dL_law_752 ?_
        obtain ⟨q159, hq159, ht⟩ := it_b ht
        have hPc : va_P D vwCl (wg9 cI cZ (dd 16) S16) H := hP.sub [66, 67, 68, 69, 70, 71, 72, 73, 74, 75, 76, 77, 78, 79, 80, 81, 82, 83, 84, 85, 86, 87, 88] rfl
        refine q_rl (va_runV (As := [.int (xs (x3 + 1).toNatClampNeg), .int (xs (x3 + 2).toNatClampNeg), .int (xs (x3 + 3).toNatClampNeg), .int (xs (x3 + 4).toNatClampNeg)]) (rest := [.long q158]) ⟨hx, hb, hml, hown, hts⟩ (kX9_thought l D cI cZ cO (dd 16) S16 (xs (x3 + 1).toNatClampNeg) (xs (x3 + 2).toNatClampNeg) (xs (x3 + 3).toNatClampNeg) (xs (x3 + 4).toNatClampNeg) q159 hq159) (cwV 4 hts gL_law_X9_thought rfl rfl rfl (by decide +kernel) ⟨Nat.le_of_ble_eq_true rfl, Nat.le_of_ble_eq_true rfl⟩) (q_rV (As := [.int (xs (x3 + 1).toNatClampNeg), .int (xs (x3 + 2).toNatClampNeg), .int (xs (x3 + 3).toNatClampNeg), .int (xs (x3 + 4).toNatClampNeg)]) hE hPc (q0 := 0) (ci := 9) rfl rfl) rfl rfl hl.1 rfl (lv_room (Nat.le_of_ble_eq_true rfl)) dL_law_753 ⟨Nat.le_of_ble_eq_true rfl, Nat.le_of_ble_eq_true rfl⟩) ?_
        refine W.lcmp hx hb dL_law_756 ?_
        refine lv_if_eq (tgt := 874) hx hb dL_law_757 (by decide) (fun c160 => ?_) (fun c160 => ?_)
        · have ht := it_p c160 ht
          refine lv_iinc (v := x3 + 5) (lv' := [(3, .int (x3 + 5)), (0, .ref b), (1, .ref (dd 14 0)), (2, .ref (dd 16 0))]) hx hb dL_law_874 hl (k := 3) rfl rfl (by decide) rfl (fun ls hl => ?_)
          refine lv_goto (tgt := 18) hx hb dL_law_877 (by decide) ?_
          exact ih18 (x3 + 5) S0 S1 S2 S3 S4 S5 S6 S7 S8 S9 S10 S11 S12 S13 S16 _ _ hP hS ls (lv_sub hl [1, 2, 3, 0] rfl) ht
        · have ht := it_n c160 ht
          refine lv_iconst (v := 0) hx hb dL_law_760 (by decide) ?_
          exact absurd (Option.some.inj ht) (by decide)
      have ht := it_n c153 ht
      by_cases c161 : (xs x3.toNatClampNeg) &&& 31 = 21
      · have ht := it_p c161 ht
        refine lv_tableIn (tgt := 762) hx hb dL_law_32 (by rw [c161]; decide) (by rw [c161]; decide) (by rw [c161]; rfl) (by decide) ?_
        refine lv_aload_n hx hb dL_law_762 rfl (lv_at hl 1 rfl) ?_
        refine lv_aload_n hx hb dL_law_763 rfl (lv_at hl 0 rfl) ?_
        refine lv_iload_n hx hb dL_law_764 rfl (lv_at hl 3 rfl) ?_
        refine lv_iconst (v := 1) hx hb dL_law_765 (by decide) ?_
        refine lv_iadd hx hb dL_law_766 ?_
        obtain ⟨g162, ht⟩ := it_g ht
        refine va_sld hx hb hX hbl hbA hS (q_in g162) dL_law_767 ?_
        refine lv_aload_n hx hb dL_law_768 rfl (lv_at hl 0 rfl) ?_
        refine lv_iload_n hx hb dL_law_769 rfl (lv_at hl 3 rfl) ?_
        refine lv_iconst (v := 2) hx hb dL_law_770 (by decide) ?_
        refine lv_iadd hx hb dL_law_771 ?_
        obtain ⟨g163, ht⟩ := it_g ht
        refine va_sld hx hb hX hbl hbA hS (q_in g163) dL_law_772 ?_
        refine lv_aload_n hx hb dL_law_773 rfl (lv_at hl 0 rfl) ?_
        refine lv_iload_n hx hb dL_law_774 rfl (lv_at hl 3 rfl) ?_
        refine lv_iconst (v := 3) hx hb dL_law_775 (by decide) ?_
        refine lv_iadd hx hb dL_law_776 ?_
        obtain ⟨g164, ht⟩ := it_g ht
        refine va_sld hx hb hX hbl hbA hS (q_in g164) dL_law_777 ?_
        obtain ⟨q165, hq165, ht⟩ := it_b ht
        have hPc : va_P D vwCl (wg5 cI cZ (dd 0) S0 ++ (wg3 (dd 2) (dd 3) (dd 4) S2 ++ (wg5 cI cZ (dd 3) S3 ++ (wg0 cI cZ (dd 4) S4 ++ (wg8 dd))))) H := hP.sub [0, 1, 2, 3, 4, 5, 6, 7, 8, 9, 12, 13, 14, 15, 16, 17, 18, 19, 20, 21, 22, 23, 64] rfl
        have hDc : va_D A (wg5 cI cZ (dd 0) S0 ++ (wg3 (dd 2) (dd 3) (dd 4) S2 ++ (wg5 cI cZ (dd 3) S3 ++ (wg0 cI cZ (dd 4) S4 ++ (wg8 dd))))) := ((hD S0 S1 S2 S3 S4 S5 S6 S7 S8 S9 S10 S11 S12 S13 S16)).sub [0, 1, 2, 3, 4, 5, 6, 7, 8, 9, 12, 13, 14, 15, 16, 17, 18, 19, 20, 21, 22, 23, 64] (by decide) rfl
        have hFc := va_free (wc := (wg5 cI cZ (dd 0) S0 ++ (wg3 (dd 2) (dd 3) (dd 4) S2 ++ (wg5 cI cZ (dd 3) S3 ++ (wg0 cI cZ (dd 4) S4 ++ (wg8 dd)))))) (hD S0 S1 S2 S3 S4 S5 S6 S7 S8 S9 S10 S11 S12 S13 S16) hS hA [0, 1, 2, 3, 4, 5, 6, 7, 8, 9, 12, 13, 14, 15, 16, 17, 18, 19, 20, 21, 22, 23, 64] rfl
        refine q_mi (va_runV (As := [.int (xs (x3 + 1).toNatClampNeg), .int (xs (x3 + 2).toNatClampNeg), .int (xs (x3 + 3).toNatClampNeg)]) (rest := []) ⟨hx, hb, hml, hown, hts⟩ (kX8_storm l D cI cZ cO dd H.size S0 S2 S3 S4 (xs (x3 + 1).toNatClampNeg) (xs (x3 + 2).toNatClampNeg) (xs (x3 + 3).toNatClampNeg) q165 hq165) (cwV 3 hts gL_law_X8_storm rfl rfl rfl (by decide +kernel) ⟨Nat.le_of_ble_eq_true rfl, Nat.le_of_ble_eq_true rfl⟩) (q_mV (As := [.int (xs (x3 + 1).toNatClampNeg), .int (xs (x3 + 2).toNatClampNeg), .int (xs (x3 + 3).toNatClampNeg)]) hE hPc hDc (q0 := 22) (ci := 8) rfl rfl) rfl rfl hl.1 rfl (lv_room (Nat.le_of_ble_eq_true rfl)) dL_law_778 ⟨Nat.le_of_ble_eq_true rfl, Nat.le_of_ble_eq_true rfl⟩) hS hFc (fun H locs b166 hP1 hk hS => ?_)
        have hP : va_P D vwCl (wg5 cI cZ (dd 0) S0 ++ (wg4 cI cZ (dd 1) S1 ++ (wg3 (dd 2) (dd 3) (dd 4) q165.2.1 ++ (wg5 cI cZ (dd 3) q165.2.2.1 ++ (wg0 cI cZ (dd 4) q165.2.2.2 ++ (wg6 cI cZ (dd 5) S5 ++ (wg7 cI cZ (dd 6) S6 ++ (wg2 cI cZ (dd 7) S7 ++ (wg1 (dd 8) (dd 9) (dd 10) S8 ++ (wg5 cI cZ (dd 9) S9 ++ (wg7 cI cZ (dd 10) S10 ++ (wg1 (dd 11) (dd 12) (dd 13) S11 ++ (wg5 cI cZ (dd 12) S12 ++ (wg7 cI cZ (dd 13) S13 ++ (wg8 dd ++ (wgi cO dd ++ (wg9 cI cZ (dd 16) S16))))))))))))))))) H := (q_join (wr := (wg4 cI cZ (dd 1) S1 ++ (wg6 cI cZ (dd 5) S5 ++ (wg7 cI cZ (dd 6) S6 ++ (wg2 cI cZ (dd 7) S7 ++ (wg1 (dd 8) (dd 9) (dd 10) S8 ++ (wg5 cI cZ (dd 9) S9 ++ (wg7 cI cZ (dd 10) S10 ++ (wg1 (dd 11) (dd 12) (dd 13) S11 ++ (wg5 cI cZ (dd 12) S12 ++ (wg7 cI cZ (dd 13) S13 ++ (wgi cO dd ++ (wg9 cI cZ (dd 16) S16))))))))))))) hP (hD S0 S1 S2 S3 S4 S5 S6 S7 S8 S9 S10 S11 S12 S13 S16) [0, 1, 2, 3, 4, 5, 6, 7, 8, 9, 12, 13, 14, 15, 16, 17, 18, 19, 20, 21, 22, 23, 64] [10, 11, 24, 25, 26, 27, 28, 29, 30, 31, 32, 33, 34, 35, 36, 37, 38, 39, 40, 41, 42, 43, 44, 45, 46, 47, 48, 49, 50, 51, 52, 53, 54, 55, 56, 57, 58, 59, 60, 61, 62, 63, 65, 66, 67, 68, 69, 70, 71, 72, 73, 74, 75, 76, 77, 78, 79, 80, 81, 82, 83, 84, 85, 86, 87, 88] rfl rfl (by decide) (by decide) hk hFc hP1 hDc rfl).sub [66, 67, 68, 69, 70, 71, 72, 73, 74, 75, 0, 1, 76, 77, 78, 79, 80, 81, 82, 83, 84, 85, 86, 87, 2, 3, 4, 5, 6, 7, 8, 9, 10, 11, 12, 13, 14, 15, 16, 17, 18, 19, 20, 21, 22, 23, 24, 25, 26, 27, 28, 29, 30, 31, 32, 33, 34, 35, 36, 37, 38, 39, 40, 41, 88, 42, 43, 44, 45, 46, 47, 48, 49, 50, 51, 52, 53, 54, 55, 56, 57, 58, 59, 60, 61, 62, 63, 64, 65] rfl
        refine lv_aload_n hx hb dL_law_781 rfl (lv_at hl 2 rfl) ?_
        refine lv_aload_n hx hb dL_law_782 rfl (lv_at hl 0 rfl) ?_
        refine lv_iload_n hx hb dL_law_783 rfl (lv_at hl 3 rfl) ?_
        refine lv_iconst (v := 1) hx hb dL_law_784 (by decide) ?_
        refine lv_iadd hx hb dL_law_785 ?_
        refine va_sld hx hb hX hbl hbA hS (q_in g162) dL_law_786 ?_
        refine lv_aload_n hx hb dL_law_787 rfl (lv_at hl 0 rfl) ?_
        refine lv_iload_n hx hb dL_law_788 rfl (lv_at hl 3 rfl) ?_
        refine lv_iconst (v := 2) hx hb dL_law_789 (by decide) ?_
        refine lv_iadd hx hb dL_law_790 ?_
        refine va_sld hx hb hX hbl hbA hS (q_in g163) dL_law_791 ?_
        refine lv_aload_n hx hb dL_law_792 rfl (lv_at hl 0 rfl) ?_
        refine lv_iload_n hx hb dL_law_793 rfl (lv_at hl 3 rfl) ?_
        refine lv_iconst (v := 3) hx hb dL_law_794 (by decide) ?_
        refine lv_iadd hx hb dL_law_795 ?_
        refine va_sld hx hb hX hbl hbA hS (q_in g164) dL_law_796 ?_
        obtain ⟨q167, hq167, ht⟩ := it_b ht
        have hPc : va_P D vwCl (wg9 cI cZ (dd 16) S16) H := hP.sub [66, 67, 68, 69, 70, 71, 72, 73, 74, 75, 76, 77, 78, 79, 80, 81, 82, 83, 84, 85, 86, 87, 88] rfl
        have hDc : va_D A (wg9 cI cZ (dd 16) S16) := ((hD S0 S1 q165.2.1 q165.2.2.1 q165.2.2.2 S5 S6 S7 S8 S9 S10 S11 S12 S13 S16)).sub [66, 67, 68, 69, 70, 71, 72, 73, 74, 75, 76, 77, 78, 79, 80, 81, 82, 83, 84, 85, 86, 87, 88] (by decide) rfl
        have hFc := va_free (wc := (wg9 cI cZ (dd 16) S16)) (hD S0 S1 q165.2.1 q165.2.2.1 q165.2.2.2 S5 S6 S7 S8 S9 S10 S11 S12 S13 S16) hS hA [66, 67, 68, 69, 70, 71, 72, 73, 74, 75, 76, 77, 78, 79, 80, 81, 82, 83, 84, 85, 86, 87, 88] rfl
        refine q_mi (va_runV (As := [.int (xs (x3 + 1).toNatClampNeg), .int (xs (x3 + 2).toNatClampNeg), .int (xs (x3 + 3).toNatClampNeg)]) (rest := [.int q165.1]) ⟨hx, hb, hml, hown, hts⟩ (kX9_storm l D cI cZ cO (dd 16) H.size S16 (xs (x3 + 1).toNatClampNeg) (xs (x3 + 2).toNatClampNeg) (xs (x3 + 3).toNatClampNeg) q167 hq167) (cwV 3 hts gL_law_X9_storm rfl rfl rfl (by decide +kernel) ⟨Nat.le_of_ble_eq_true rfl, Nat.le_of_ble_eq_true rfl⟩) (q_mV (As := [.int (xs (x3 + 1).toNatClampNeg), .int (xs (x3 + 2).toNatClampNeg), .int (xs (x3 + 3).toNatClampNeg)]) hE hPc hDc (q0 := 0) (ci := 9) rfl rfl) rfl rfl hl.1 rfl (lv_room (Nat.le_of_ble_eq_true rfl)) dL_law_797 ⟨Nat.le_of_ble_eq_true rfl, Nat.le_of_ble_eq_true rfl⟩) hS hFc (fun H locs b168 hP1 hk hS => ?_)
        have hP : va_P D vwCl (wg5 cI cZ (dd 0) S0 ++ (wg4 cI cZ (dd 1) S1 ++ (wg3 (dd 2) (dd 3) (dd 4) q165.2.1 ++ (wg5 cI cZ (dd 3) q165.2.2.1 ++ (wg0 cI cZ (dd 4) q165.2.2.2 ++ (wg6 cI cZ (dd 5) S5 ++ (wg7 cI cZ (dd 6) S6 ++ (wg2 cI cZ (dd 7) S7 ++ (wg1 (dd 8) (dd 9) (dd 10) S8 ++ (wg5 cI cZ (dd 9) S9 ++ (wg7 cI cZ (dd 10) S10 ++ (wg1 (dd 11) (dd 12) (dd 13) S11 ++ (wg5 cI cZ (dd 12) S12 ++ (wg7 cI cZ (dd 13) S13 ++ (wg8 dd ++ (wgi cO dd ++ (wg9 cI cZ (dd 16) q167.2))))))))))))))))) H := (q_join (wr := (wg5 cI cZ (dd 0) S0 ++ (wg4 cI cZ (dd 1) S1 ++ (wg3 (dd 2) (dd 3) (dd 4) q165.2.1 ++ (wg5 cI cZ (dd 3) q165.2.2.1 ++ (wg0 cI cZ (dd 4) q165.2.2.2 ++ (wg6 cI cZ (dd 5) S5 ++ (wg7 cI cZ (dd 6) S6 ++ (wg2 cI cZ (dd 7) S7 ++ (wg1 (dd 8) (dd 9) (dd 10) S8 ++ (wg5 cI cZ (dd 9) S9 ++ (wg7 cI cZ (dd 10) S10 ++ (wg1 (dd 11) (dd 12) (dd 13) S11 ++ (wg5 cI cZ (dd 12) S12 ++ (wg7 cI cZ (dd 13) S13 ++ (wg8 dd ++ (wgi cO dd))))))))))))))))) hP (hD S0 S1 q165.2.1 q165.2.2.1 q165.2.2.2 S5 S6 S7 S8 S9 S10 S11 S12 S13 S16) [66, 67, 68, 69, 70, 71, 72, 73, 74, 75, 76, 77, 78, 79, 80, 81, 82, 83, 84, 85, 86, 87, 88] [0, 1, 2, 3, 4, 5, 6, 7, 8, 9, 10, 11, 12, 13, 14, 15, 16, 17, 18, 19, 20, 21, 22, 23, 24, 25, 26, 27, 28, 29, 30, 31, 32, 33, 34, 35, 36, 37, 38, 39, 40, 41, 42, 43, 44, 45, 46, 47, 48, 49, 50, 51, 52, 53, 54, 55, 56, 57, 58, 59, 60, 61, 62, 63, 64, 65] rfl rfl (by decide) (by decide) hk hFc hP1 hDc rfl).sub [0, 1, 2, 3, 4, 5, 6, 7, 8, 9, 10, 11, 12, 13, 14, 15, 16, 17, 18, 19, 20, 21, 22, 23, 24, 25, 26, 27, 28, 29, 30, 31, 32, 33, 34, 35, 36, 37, 38, 39, 40, 41, 42, 43, 44, 45, 46, 47, 48, 49, 50, 51, 52, 53, 54, 55, 56, 57, 58, 59, 60, 61, 62, 63, 64, 65, 66, 67, 68, 69, 70, 71, 72, 73, 74, 75, 76, 77, 78, 79, 80, 81, 82, 83, 84, 85, 86, 87, 88] rfl
        refine lv_icmp_eq (tgt := 874) hx hb dL_law_800 (by decide) (fun c169 => ?_) (fun c169 => ?_)
        · have ht := it_p c169 ht
          refine lv_iinc (v := x3 + 5) (lv' := [(3, .int (x3 + 5)), (0, .ref b), (1, .ref (dd 14 0)), (2, .ref (dd 16 0))]) hx hb dL_law_874 hl (k := 3) rfl rfl (by decide) rfl (fun ls hl => ?_)
          refine lv_goto (tgt := 18) hx hb dL_law_877 (by decide) ?_
          exact ih18 (x3 + 5) S0 S1 q165.2.1 q165.2.2.1 q165.2.2.2 S5 S6 S7 S8 S9 S10 S11 S12 S13 q167.2 _ _ hP hS ls (lv_sub hl [1, 2, 3, 0] rfl) ht
        · have ht := it_n c169 ht
          refine lv_iconst (v := 0) hx hb dL_law_803 (by decide) ?_
          exact absurd (Option.some.inj ht) (by decide)
      have ht := it_n c161 ht
      by_cases c170 : (xs x3.toNatClampNeg) &&& 31 = 22
      · have ht := it_p c170 ht
        refine lv_tableIn (tgt := 805) hx hb dL_law_32 (by rw [c170]; decide) (by rw [c170]; decide) (by rw [c170]; rfl) (by decide) ?_
        refine lv_aload_n hx hb dL_law_805 rfl (lv_at hl 1 rfl) ?_
        refine lv_aload_n hx hb dL_law_806 rfl (lv_at hl 0 rfl) ?_
        refine lv_iload_n hx hb dL_law_807 rfl (lv_at hl 3 rfl) ?_
        refine lv_iconst (v := 1) hx hb dL_law_808 (by decide) ?_
        refine lv_iadd hx hb dL_law_809 ?_
        obtain ⟨g171, ht⟩ := it_g ht
        refine va_sld hx hb hX hbl hbA hS (q_in g171) dL_law_810 ?_
        obtain ⟨q172, hq172, ht⟩ := it_b ht
        have hPc : va_P D vwCl (wg5 cI cZ (dd 0) S0 ++ (wg7 cI cZ (dd 6) S6 ++ (wg1 (dd 8) (dd 9) (dd 10) S8 ++ (wg5 cI cZ (dd 9) S9 ++ (wg7 cI cZ (dd 10) S10 ++ (wg1 (dd 11) (dd 12) (dd 13) S11 ++ (wg5 cI cZ (dd 12) S12 ++ (wg7 cI cZ (dd 13) S13 ++ (wg8 dd ++ (wgi cO dd)))))))))) H := hP.sub [0, 1, 2, 3, 4, 5, 6, 7, 8, 9, 26, 27, 28, 29, 34, 35, 36, 37, 38, 39, 40, 41, 42, 43, 44, 45, 46, 47, 48, 49, 50, 51, 52, 53, 54, 55, 56, 57, 58, 59, 60, 61, 62, 63, 64, 65] rfl
        have hDc : va_D A (wg5 cI cZ (dd 0) S0 ++ (wg7 cI cZ (dd 6) S6 ++ (wg1 (dd 8) (dd 9) (dd 10) S8 ++ (wg5 cI cZ (dd 9) S9 ++ (wg7 cI cZ (dd 10) S10 ++ (wg1 (dd 11) (dd 12) (dd 13) S11 ++ (wg5 cI cZ (dd 12) S12 ++ (wg7 cI cZ (dd 13) S13 ++ (wg8 dd ++ (wgi cO dd)))))))))) := ((hD S0 S1 S2 S3 S4 S5 S6 S7 S8 S9 S10 S11 S12 S13 S16)).sub [0, 1, 2, 3, 4, 5, 6, 7, 8, 9, 26, 27, 28, 29, 34, 35, 36, 37, 38, 39, 40, 41, 42, 43, 44, 45, 46, 47, 48, 49, 50, 51, 52, 53, 54, 55, 56, 57, 58, 59, 60, 61, 62, 63, 64, 65] (by decide) rfl
        have hFc := va_free (wc := (wg5 cI cZ (dd 0) S0 ++ (wg7 cI cZ (dd 6) S6 ++ (wg1 (dd 8) (dd 9) (dd 10) S8 ++ (wg5 cI cZ (dd 9) S9 ++ (wg7 cI cZ (dd 10) S10 ++ (wg1 (dd 11) (dd 12) (dd 13) S11 ++ (wg5 cI cZ (dd 12) S12 ++ (wg7 cI cZ (dd 13) S13 ++ (wg8 dd ++ (wgi cO dd))))))))))) (hD S0 S1 S2 S3 S4 S5 S6 S7 S8 S9 S10 S11 S12 S13 S16) hS hA [0, 1, 2, 3, 4, 5, 6, 7, 8, 9, 26, 27, 28, 29, 34, 35, 36, 37, 38, 39, 40, 41, 42, 43, 44, 45, 46, 47, 48, 49, 50, 51, 52, 53, 54, 55, 56, 57, 58, 59, 60, 61, 62, 63, 64, 65] rfl
        refine q_mi (va_runV (As := [.int (xs (x3 + 1).toNatClampNeg)]) (rest := []) ⟨hx, hb, hml, hown, hts⟩ (kX8_image l D cI cZ cO dd H.size S0 S6 S8 S9 S10 S11 S12 S13 (xs (x3 + 1).toNatClampNeg) q172 hq172) (cwV 1 hts gL_law_X8_image rfl rfl rfl (by decide +kernel) ⟨Nat.le_of_ble_eq_true rfl, Nat.le_of_ble_eq_true rfl⟩) (q_mV (As := [.int (xs (x3 + 1).toNatClampNeg)]) hE hPc hDc (q0 := 44) (ci := 8) rfl rfl) rfl rfl hl.1 rfl (lv_room (Nat.le_of_ble_eq_true rfl)) dL_law_811 ⟨Nat.le_of_ble_eq_true rfl, Nat.le_of_ble_eq_true rfl⟩) hS hFc (fun H locs b173 hP1 hk hS => ?_)
        have hP : va_P D vwCl (wg5 cI cZ (dd 0) S0 ++ (wg4 cI cZ (dd 1) S1 ++ (wg3 (dd 2) (dd 3) (dd 4) S2 ++ (wg5 cI cZ (dd 3) S3 ++ (wg0 cI cZ (dd 4) S4 ++ (wg6 cI cZ (dd 5) S5 ++ (wg7 cI cZ (dd 6) S6 ++ (wg2 cI cZ (dd 7) S7 ++ (wg1 (dd 8) (dd 9) (dd 10) q172.2.1 ++ (wg5 cI cZ (dd 9) q172.2.2.1 ++ (wg7 cI cZ (dd 10) q172.2.2.2.1 ++ (wg1 (dd 11) (dd 12) (dd 13) q172.2.2.2.2.1 ++ (wg5 cI cZ (dd 12) q172.2.2.2.2.2.1 ++ (wg7 cI cZ (dd 13) q172.2.2.2.2.2.2 ++ (wg8 dd ++ (wgi cO dd ++ (wg9 cI cZ (dd 16) S16))))))))))))))))) H := (q_join (wr := (wg4 cI cZ (dd 1) S1 ++ (wg3 (dd 2) (dd 3) (dd 4) S2 ++ (wg5 cI cZ (dd 3) S3 ++ (wg0 cI cZ (dd 4) S4 ++ (wg6 cI cZ (dd 5) S5 ++ (wg2 cI cZ (dd 7) S7 ++ (wg9 cI cZ (dd 16) S16)))))))) hP (hD S0 S1 S2 S3 S4 S5 S6 S7 S8 S9 S10 S11 S12 S13 S16) [0, 1, 2, 3, 4, 5, 6, 7, 8, 9, 26, 27, 28, 29, 34, 35, 36, 37, 38, 39, 40, 41, 42, 43, 44, 45, 46, 47, 48, 49, 50, 51, 52, 53, 54, 55, 56, 57, 58, 59, 60, 61, 62, 63, 64, 65] [10, 11, 12, 13, 14, 15, 16, 17, 18, 19, 20, 21, 22, 23, 24, 25, 30, 31, 32, 33, 66, 67, 68, 69, 70, 71, 72, 73, 74, 75, 76, 77, 78, 79, 80, 81, 82, 83, 84, 85, 86, 87, 88] rfl rfl (by decide) (by decide) hk hFc hP1 hDc rfl).sub [43, 44, 45, 46, 47, 48, 49, 50, 51, 52, 0, 1, 2, 3, 4, 5, 6, 7, 8, 9, 10, 11, 12, 13, 14, 15, 53, 54, 55, 56, 16, 17, 18, 19, 57, 58, 59, 60, 61, 62, 63, 64, 65, 66, 67, 68, 69, 70, 71, 72, 73, 74, 75, 76, 77, 78, 79, 80, 81, 82, 83, 84, 85, 86, 87, 88, 20, 21, 22, 23, 24, 25, 26, 27, 28, 29, 30, 31, 32, 33, 34, 35, 36, 37, 38, 39, 40, 41, 42] rfl
        refine lv_aload_n hx hb dL_law_814 rfl (lv_at hl 2 rfl) ?_
        refine lv_aload_n hx hb dL_law_815 rfl (lv_at hl 0 rfl) ?_
        refine lv_iload_n hx hb dL_law_816 rfl (lv_at hl 3 rfl) ?_
        refine lv_iconst (v := 1) hx hb dL_law_817 (by decide) ?_
        refine lv_iadd hx hb dL_law_818 ?_
        refine va_sld hx hb hX hbl hbA hS (q_in g171) dL_law_819 ?_
        obtain ⟨q174, hq174, ht⟩ := it_b ht
        have hPc : va_P D vwCl (wg9 cI cZ (dd 16) S16) H := hP.sub [66, 67, 68, 69, 70, 71, 72, 73, 74, 75, 76, 77, 78, 79, 80, 81, 82, 83, 84, 85, 86, 87, 88] rfl
        have hDc : va_D A (wg9 cI cZ (dd 16) S16) := ((hD S0 S1 S2 S3 S4 S5 S6 S7 q172.2.1 q172.2.2.1 q172.2.2.2.1 q172.2.2.2.2.1 q172.2.2.2.2.2.1 q172.2.2.2.2.2.2 S16)).sub [66, 67, 68, 69, 70, 71, 72, 73, 74, 75, 76, 77, 78, 79, 80, 81, 82, 83, 84, 85, 86, 87, 88] (by decide) rfl
        have hFc := va_free (wc := (wg9 cI cZ (dd 16) S16)) (hD S0 S1 S2 S3 S4 S5 S6 S7 q172.2.1 q172.2.2.1 q172.2.2.2.1 q172.2.2.2.2.1 q172.2.2.2.2.2.1 q172.2.2.2.2.2.2 S16) hS hA [66, 67, 68, 69, 70, 71, 72, 73, 74, 75, 76, 77, 78, 79, 80, 81, 82, 83, 84, 85, 86, 87, 88] rfl
        refine q_mi (va_runV (As := [.int (xs (x3 + 1).toNatClampNeg)]) (rest := [.int q172.1]) ⟨hx, hb, hml, hown, hts⟩ (kX9_image l D cI cZ cO (dd 16) H.size S16 (xs (x3 + 1).toNatClampNeg) q174 hq174) (cwV 1 hts gL_law_X9_image rfl rfl rfl (by decide +kernel) ⟨Nat.le_of_ble_eq_true rfl, Nat.le_of_ble_eq_true rfl⟩) (q_mV (As := [.int (xs (x3 + 1).toNatClampNeg)]) hE hPc hDc (q0 := 0) (ci := 9) rfl rfl) rfl rfl hl.1 rfl (lv_room (Nat.le_of_ble_eq_true rfl)) dL_law_820 ⟨Nat.le_of_ble_eq_true rfl, Nat.le_of_ble_eq_true rfl⟩) hS hFc (fun H locs b175 hP1 hk hS => ?_)
        have hP : va_P D vwCl (wg5 cI cZ (dd 0) S0 ++ (wg4 cI cZ (dd 1) S1 ++ (wg3 (dd 2) (dd 3) (dd 4) S2 ++ (wg5 cI cZ (dd 3) S3 ++ (wg0 cI cZ (dd 4) S4 ++ (wg6 cI cZ (dd 5) S5 ++ (wg7 cI cZ (dd 6) S6 ++ (wg2 cI cZ (dd 7) S7 ++ (wg1 (dd 8) (dd 9) (dd 10) q172.2.1 ++ (wg5 cI cZ (dd 9) q172.2.2.1 ++ (wg7 cI cZ (dd 10) q172.2.2.2.1 ++ (wg1 (dd 11) (dd 12) (dd 13) q172.2.2.2.2.1 ++ (wg5 cI cZ (dd 12) q172.2.2.2.2.2.1 ++ (wg7 cI cZ (dd 13) q172.2.2.2.2.2.2 ++ (wg8 dd ++ (wgi cO dd ++ (wg9 cI cZ (dd 16) q174.2))))))))))))))))) H := (q_join (wr := (wg5 cI cZ (dd 0) S0 ++ (wg4 cI cZ (dd 1) S1 ++ (wg3 (dd 2) (dd 3) (dd 4) S2 ++ (wg5 cI cZ (dd 3) S3 ++ (wg0 cI cZ (dd 4) S4 ++ (wg6 cI cZ (dd 5) S5 ++ (wg7 cI cZ (dd 6) S6 ++ (wg2 cI cZ (dd 7) S7 ++ (wg1 (dd 8) (dd 9) (dd 10) q172.2.1 ++ (wg5 cI cZ (dd 9) q172.2.2.1 ++ (wg7 cI cZ (dd 10) q172.2.2.2.1 ++ (wg1 (dd 11) (dd 12) (dd 13) q172.2.2.2.2.1 ++ (wg5 cI cZ (dd 12) q172.2.2.2.2.2.1 ++ (wg7 cI cZ (dd 13) q172.2.2.2.2.2.2 ++ (wg8 dd ++ (wgi cO dd))))))))))))))))) hP (hD S0 S1 S2 S3 S4 S5 S6 S7 q172.2.1 q172.2.2.1 q172.2.2.2.1 q172.2.2.2.2.1 q172.2.2.2.2.2.1 q172.2.2.2.2.2.2 S16) [66, 67, 68, 69, 70, 71, 72, 73, 74, 75, 76, 77, 78, 79, 80, 81, 82, 83, 84, 85, 86, 87, 88] [0, 1, 2, 3, 4, 5, 6, 7, 8, 9, 10, 11, 12, 13, 14, 15, 16, 17, 18, 19, 20, 21, 22, 23, 24, 25, 26, 27, 28, 29, 30, 31, 32, 33, 34, 35, 36, 37, 38, 39, 40, 41, 42, 43, 44, 45, 46, 47, 48, 49, 50, 51, 52, 53, 54, 55, 56, 57, 58, 59, 60, 61, 62, 63, 64, 65] rfl rfl (by decide) (by decide) hk hFc hP1 hDc rfl).sub [0, 1, 2, 3, 4, 5, 6, 7, 8, 9, 10, 11, 12, 13, 14, 15, 16, 17, 18, 19, 20, 21, 22, 23, 24, 25, 26, 27, 28, 29, 30, 31, 32, 33, 34, 35, 36, 37, 38, 39, 40, 41, 42, 43, 44, 45, 46, 47, 48, 49, 50, 51, 52, 53, 54, 55, 56, 57, 58, 59, 60, 61, 62, 63, 64, 65, 66, 67, 68, 69, 70, 71, 72, 73, 74, 75, 76, 77, 78, 79, 80, 81, 82, 83, 84, 85, 86, 87, 88] rfl
        refine lv_icmp_eq (tgt := 874) hx hb dL_law_823 (by decide) (fun c176 => ?_) (fun c176 => ?_)
        · have ht := it_p c176 ht
          refine lv_iinc (v := x3 + 5) (lv' := [(3, .int (x3 + 5)), (0, .ref b), (1, .ref (dd 14 0)), (2, .ref (dd 16 0))]) hx hb dL_law_874 hl (k := 3) rfl rfl (by decide) rfl (fun ls hl => ?_)
          refine lv_goto (tgt := 18) hx hb dL_law_877 (by decide) ?_
          exact ih18 (x3 + 5) S0 S1 S2 S3 S4 S5 S6 S7 q172.2.1 q172.2.2.1 q172.2.2.2.1 q172.2.2.2.2.1 q172.2.2.2.2.2.1 q172.2.2.2.2.2.2 q174.2 _ _ hP hS ls (lv_sub hl [1, 2, 3, 0] rfl) ht
        · have ht := it_n c176 ht
          refine lv_iconst (v := 0) hx hb dL_law_826 (by decide) ?_
          exact absurd (Option.some.inj ht) (by decide)
      have ht := it_n c170 ht
      by_cases c177 : (xs x3.toNatClampNeg) &&& 31 = 23
      · have ht := it_p c177 ht
        refine lv_tableIn (tgt := 828) hx hb dL_law_32 (by rw [c177]; decide) (by rw [c177]; decide) (by rw [c177]; rfl) (by decide) ?_
        refine lv_aload_n hx hb dL_law_828 rfl (lv_at hl 1 rfl) ?_
        refine lv_aload_n hx hb dL_law_829 rfl (lv_at hl 0 rfl) ?_
        refine lv_iload_n hx hb dL_law_830 rfl (lv_at hl 3 rfl) ?_
        refine lv_iconst (v := 1) hx hb dL_law_831 (by decide) ?_
        refine lv_iadd hx hb dL_law_832 ?_
        obtain ⟨g178, ht⟩ := it_g ht
        refine va_sld hx hb hX hbl hbA hS (q_in g178) dL_law_833 ?_
        obtain ⟨q179, hq179, ht⟩ := it_b ht
        have hPc : va_P D vwCl (wg5 cI cZ (dd 0) S0 ++ (wg7 cI cZ (dd 6) S6 ++ (wg1 (dd 8) (dd 9) (dd 10) S8 ++ (wg5 cI cZ (dd 9) S9 ++ (wg7 cI cZ (dd 10) S10 ++ (wg1 (dd 11) (dd 12) (dd 13) S11 ++ (wg5 cI cZ (dd 12) S12 ++ (wg7 cI cZ (dd 13) S13 ++ (wg8 dd ++ (wgi cO dd)))))))))) H := hP.sub [0, 1, 2, 3, 4, 5, 6, 7, 8, 9, 26, 27, 28, 29, 34, 35, 36, 37, 38, 39, 40, 41, 42, 43, 44, 45, 46, 47, 48, 49, 50, 51, 52, 53, 54, 55, 56, 57, 58, 59, 60, 61, 62, 63, 64, 65] rfl
        have hDc : va_D A (wg5 cI cZ (dd 0) S0 ++ (wg7 cI cZ (dd 6) S6 ++ (wg1 (dd 8) (dd 9) (dd 10) S8 ++ (wg5 cI cZ (dd 9) S9 ++ (wg7 cI cZ (dd 10) S10 ++ (wg1 (dd 11) (dd 12) (dd 13) S11 ++ (wg5 cI cZ (dd 12) S12 ++ (wg7 cI cZ (dd 13) S13 ++ (wg8 dd ++ (wgi cO dd)))))))))) := ((hD S0 S1 S2 S3 S4 S5 S6 S7 S8 S9 S10 S11 S12 S13 S16)).sub [0, 1, 2, 3, 4, 5, 6, 7, 8, 9, 26, 27, 28, 29, 34, 35, 36, 37, 38, 39, 40, 41, 42, 43, 44, 45, 46, 47, 48, 49, 50, 51, 52, 53, 54, 55, 56, 57, 58, 59, 60, 61, 62, 63, 64, 65] (by decide) rfl
        have hFc := va_free (wc := (wg5 cI cZ (dd 0) S0 ++ (wg7 cI cZ (dd 6) S6 ++ (wg1 (dd 8) (dd 9) (dd 10) S8 ++ (wg5 cI cZ (dd 9) S9 ++ (wg7 cI cZ (dd 10) S10 ++ (wg1 (dd 11) (dd 12) (dd 13) S11 ++ (wg5 cI cZ (dd 12) S12 ++ (wg7 cI cZ (dd 13) S13 ++ (wg8 dd ++ (wgi cO dd))))))))))) (hD S0 S1 S2 S3 S4 S5 S6 S7 S8 S9 S10 S11 S12 S13 S16) hS hA [0, 1, 2, 3, 4, 5, 6, 7, 8, 9, 26, 27, 28, 29, 34, 35, 36, 37, 38, 39, 40, 41, 42, 43, 44, 45, 46, 47, 48, 49, 50, 51, 52, 53, 54, 55, 56, 57, 58, 59, 60, 61, 62, 63, 64, 65] rfl
        refine q_mi (va_runV (As := [.int (xs (x3 + 1).toNatClampNeg)]) (rest := []) ⟨hx, hb, hml, hown, hts⟩ (kX8_restore l D cI cZ cO dd H.size S0 S6 S8 S9 S10 S11 S12 S13 (xs (x3 + 1).toNatClampNeg) q179 hq179) (cwV 1 hts gL_law_X8_restore rfl rfl rfl (by decide +kernel) ⟨Nat.le_of_ble_eq_true rfl, Nat.le_of_ble_eq_true rfl⟩) (q_mV (As := [.int (xs (x3 + 1).toNatClampNeg)]) hE hPc hDc (q0 := 44) (ci := 8) rfl rfl) rfl rfl hl.1 rfl (lv_room (Nat.le_of_ble_eq_true rfl)) dL_law_834 ⟨Nat.le_of_ble_eq_true rfl, Nat.le_of_ble_eq_true rfl⟩) hS hFc (fun H locs b180 hP1 hk hS => ?_)
        have hP : va_P D vwCl (wg5 cI cZ (dd 0) q179.2.1 ++ (wg4 cI cZ (dd 1) S1 ++ (wg3 (dd 2) (dd 3) (dd 4) S2 ++ (wg5 cI cZ (dd 3) S3 ++ (wg0 cI cZ (dd 4) S4 ++ (wg6 cI cZ (dd 5) S5 ++ (wg7 cI cZ (dd 6) q179.2.2 ++ (wg2 cI cZ (dd 7) S7 ++ (wg1 (dd 8) (dd 9) (dd 10) S8 ++ (wg5 cI cZ (dd 9) S9 ++ (wg7 cI cZ (dd 10) S10 ++ (wg1 (dd 11) (dd 12) (dd 13) S11 ++ (wg5 cI cZ (dd 12) S12 ++ (wg7 cI cZ (dd 13) S13 ++ (wg8 dd ++ (wgi cO dd ++ (wg9 cI cZ (dd 16) S16))))))))))))))))) H := (q_join (wr := (wg4 cI cZ (dd 1) S1 ++ (wg3 (dd 2) (dd 3) (dd 4) S2 ++ (wg5 cI cZ (dd 3) S3 ++ (wg0 cI cZ (dd 4) S4 ++ (wg6 cI cZ (dd 5) S5 ++ (wg2 cI cZ (dd 7) S7 ++ (wg9 cI cZ (dd 16) S16)))))))) hP (hD S0 S1 S2 S3 S4 S5 S6 S7 S8 S9 S10 S11 S12 S13 S16) [0, 1, 2, 3, 4, 5, 6, 7, 8, 9, 26, 27, 28, 29, 34, 35, 36, 37, 38, 39, 40, 41, 42, 43, 44, 45, 46, 47, 48, 49, 50, 51, 52, 53, 54, 55, 56, 57, 58, 59, 60, 61, 62, 63, 64, 65] [10, 11, 12, 13, 14, 15, 16, 17, 18, 19, 20, 21, 22, 23, 24, 25, 30, 31, 32, 33, 66, 67, 68, 69, 70, 71, 72, 73, 74, 75, 76, 77, 78, 79, 80, 81, 82, 83, 84, 85, 86, 87, 88] rfl rfl (by decide) (by decide) hk hFc hP1 hDc rfl).sub [43, 44, 45, 46, 47, 48, 49, 50, 51, 52, 0, 1, 2, 3, 4, 5, 6, 7, 8, 9, 10, 11, 12, 13, 14, 15, 53, 54, 55, 56, 16, 17, 18, 19, 57, 58, 59, 60, 61, 62, 63, 64, 65, 66, 67, 68, 69, 70, 71, 72, 73, 74, 75, 76, 77, 78, 79, 80, 81, 82, 83, 84, 85, 86, 87, 88, 20, 21, 22, 23, 24, 25, 26, 27, 28, 29, 30, 31, 32, 33, 34, 35, 36, 37, 38, 39, 40, 41, 42] rfl
        refine lv_aload_n hx hb dL_law_837 rfl (lv_at hl 2 rfl) ?_
        refine lv_aload_n hx hb dL_law_838 rfl (lv_at hl 0 rfl) ?_
        refine lv_iload_n hx hb dL_law_839 rfl (lv_at hl 3 rfl) ?_
        refine lv_iconst (v := 1) hx hb dL_law_840 (by decide) ?_
        refine lv_iadd hx hb dL_law_841 ?_
        refine va_sld hx hb hX hbl hbA hS (q_in g178) dL_law_842 ?_
        obtain ⟨q181, hq181, ht⟩ := it_b ht
        have hPc : va_P D vwCl (wg9 cI cZ (dd 16) S16) H := hP.sub [66, 67, 68, 69, 70, 71, 72, 73, 74, 75, 76, 77, 78, 79, 80, 81, 82, 83, 84, 85, 86, 87, 88] rfl
        have hDc : va_D A (wg9 cI cZ (dd 16) S16) := ((hD q179.2.1 S1 S2 S3 S4 S5 q179.2.2 S7 S8 S9 S10 S11 S12 S13 S16)).sub [66, 67, 68, 69, 70, 71, 72, 73, 74, 75, 76, 77, 78, 79, 80, 81, 82, 83, 84, 85, 86, 87, 88] (by decide) rfl
        have hFc := va_free (wc := (wg9 cI cZ (dd 16) S16)) (hD q179.2.1 S1 S2 S3 S4 S5 q179.2.2 S7 S8 S9 S10 S11 S12 S13 S16) hS hA [66, 67, 68, 69, 70, 71, 72, 73, 74, 75, 76, 77, 78, 79, 80, 81, 82, 83, 84, 85, 86, 87, 88] rfl
        refine q_mi (va_runV (As := [.int (xs (x3 + 1).toNatClampNeg)]) (rest := [.int q179.1]) ⟨hx, hb, hml, hown, hts⟩ (kX9_restore l D cI cZ cO (dd 16) H.size S16 (xs (x3 + 1).toNatClampNeg) q181 hq181) (cwV 1 hts gL_law_X9_restore rfl rfl rfl (by decide +kernel) ⟨Nat.le_of_ble_eq_true rfl, Nat.le_of_ble_eq_true rfl⟩) (q_mV (As := [.int (xs (x3 + 1).toNatClampNeg)]) hE hPc hDc (q0 := 0) (ci := 9) rfl rfl) rfl rfl hl.1 rfl (lv_room (Nat.le_of_ble_eq_true rfl)) dL_law_843 ⟨Nat.le_of_ble_eq_true rfl, Nat.le_of_ble_eq_true rfl⟩) hS hFc (fun H locs b182 hP1 hk hS => ?_)
        have hP : va_P D vwCl (wg5 cI cZ (dd 0) q179.2.1 ++ (wg4 cI cZ (dd 1) S1 ++ (wg3 (dd 2) (dd 3) (dd 4) S2 ++ (wg5 cI cZ (dd 3) S3 ++ (wg0 cI cZ (dd 4) S4 ++ (wg6 cI cZ (dd 5) S5 ++ (wg7 cI cZ (dd 6) q179.2.2 ++ (wg2 cI cZ (dd 7) S7 ++ (wg1 (dd 8) (dd 9) (dd 10) S8 ++ (wg5 cI cZ (dd 9) S9 ++ (wg7 cI cZ (dd 10) S10 ++ (wg1 (dd 11) (dd 12) (dd 13) S11 ++ (wg5 cI cZ (dd 12) S12 ++ (wg7 cI cZ (dd 13) S13 ++ (wg8 dd ++ (wgi cO dd ++ (wg9 cI cZ (dd 16) q181.2))))))))))))))))) H := (q_join (wr := (wg5 cI cZ (dd 0) q179.2.1 ++ (wg4 cI cZ (dd 1) S1 ++ (wg3 (dd 2) (dd 3) (dd 4) S2 ++ (wg5 cI cZ (dd 3) S3 ++ (wg0 cI cZ (dd 4) S4 ++ (wg6 cI cZ (dd 5) S5 ++ (wg7 cI cZ (dd 6) q179.2.2 ++ (wg2 cI cZ (dd 7) S7 ++ (wg1 (dd 8) (dd 9) (dd 10) S8 ++ (wg5 cI cZ (dd 9) S9 ++ (wg7 cI cZ (dd 10) S10 ++ (wg1 (dd 11) (dd 12) (dd 13) S11 ++ (wg5 cI cZ (dd 12) S12 ++ (wg7 cI cZ (dd 13) S13 ++ (wg8 dd ++ (wgi cO dd))))))))))))))))) hP (hD q179.2.1 S1 S2 S3 S4 S5 q179.2.2 S7 S8 S9 S10 S11 S12 S13 S16) [66, 67, 68, 69, 70, 71, 72, 73, 74, 75, 76, 77, 78, 79, 80, 81, 82, 83, 84, 85, 86, 87, 88] [0, 1, 2, 3, 4, 5, 6, 7, 8, 9, 10, 11, 12, 13, 14, 15, 16, 17, 18, 19, 20, 21, 22, 23, 24, 25, 26, 27, 28, 29, 30, 31, 32, 33, 34, 35, 36, 37, 38, 39, 40, 41, 42, 43, 44, 45, 46, 47, 48, 49, 50, 51, 52, 53, 54, 55, 56, 57, 58, 59, 60, 61, 62, 63, 64, 65] rfl rfl (by decide) (by decide) hk hFc hP1 hDc rfl).sub [0, 1, 2, 3, 4, 5, 6, 7, 8, 9, 10, 11, 12, 13, 14, 15, 16, 17, 18, 19, 20, 21, 22, 23, 24, 25, 26, 27, 28, 29, 30, 31, 32, 33, 34, 35, 36, 37, 38, 39, 40, 41, 42, 43, 44, 45, 46, 47, 48, 49, 50, 51, 52, 53, 54, 55, 56, 57, 58, 59, 60, 61, 62, 63, 64, 65, 66, 67, 68, 69, 70, 71, 72, 73, 74, 75, 76, 77, 78, 79, 80, 81, 82, 83, 84, 85, 86, 87, 88] rfl
        refine lv_icmp_eq (tgt := 874) hx hb dL_law_846 (by decide) (fun c183 => ?_) (fun c183 => ?_)
        · have ht := it_p c183 ht
          refine lv_iinc (v := x3 + 5) (lv' := [(3, .int (x3 + 5)), (0, .ref b), (1, .ref (dd 14 0)), (2, .ref (dd 16 0))]) hx hb dL_law_874 hl (k := 3) rfl rfl (by decide) rfl (fun ls hl => ?_)
          refine lv_goto (tgt := 18) hx hb dL_law_877 (by decide) ?_
          exact ih18 (x3 + 5) q179.2.1 S1 S2 S3 S4 S5 q179.2.2 S7 S8 S9 S10 S11 S12 S13 q181.2 _ _ hP hS ls (lv_sub hl [1, 2, 3, 0] rfl) ht
        · have ht := it_n c183 ht
          refine lv_iconst (v := 0) hx hb dL_law_849 (by decide) ?_
          exact absurd (Option.some.inj ht) (by decide)
      have ht := it_n c177 ht
      by_cases c184 : (xs x3.toNatClampNeg) &&& 31 = 24
      · have ht := it_p c184 ht
        refine lv_tableIn (tgt := 851) hx hb dL_law_32 (by rw [c184]; decide) (by rw [c184]; decide) (by rw [c184]; rfl) (by decide) ?_
        refine lv_aload_n hx hb dL_law_851 rfl (lv_at hl 1 rfl) ?_
        refine lv_aload_n hx hb dL_law_852 rfl (lv_at hl 0 rfl) ?_
        refine lv_iload_n hx hb dL_law_853 rfl (lv_at hl 3 rfl) ?_
        refine lv_iconst (v := 1) hx hb dL_law_854 (by decide) ?_
        refine lv_iadd hx hb dL_law_855 ?_
        obtain ⟨g185, ht⟩ := it_g ht
        refine va_sld hx hb hX hbl hbA hS (q_in g185) dL_law_856 ?_
        obtain ⟨q186, hq186, ht⟩ := it_b ht
        have hPc : va_P D vwCl (wg5 cI cZ (dd 0) S0 ++ (wg4 cI cZ (dd 1) S1 ++ (wg7 cI cZ (dd 6) S6 ++ (wg8 dd)))) H := hP.sub [0, 1, 2, 3, 4, 5, 6, 7, 8, 9, 10, 11, 26, 27, 28, 29, 64] rfl
        refine q_ri (va_runV (As := [.int (xs (x3 + 1).toNatClampNeg)]) (rest := []) ⟨hx, hb, hml, hown, hts⟩ (kX8_told l D cI cZ cO dd S0 S1 S6 (xs (x3 + 1).toNatClampNeg) q186 hq186) (cwV 1 hts gL_law_X8_told rfl rfl rfl (by decide +kernel) ⟨Nat.le_of_ble_eq_true rfl, Nat.le_of_ble_eq_true rfl⟩) (q_rV (As := [.int (xs (x3 + 1).toNatClampNeg)]) hE hPc (q0 := 16) (ci := 8) rfl rfl) rfl rfl hl.1 rfl (lv_room (Nat.le_of_ble_eq_true rfl)) dL_law_857 ⟨Nat.le_of_ble_eq_true rfl, Nat.le_of_ble_eq_true rfl⟩) (fun b187 => ?_)
        refine lv_aload_n hx hb dL_law_860 rfl (lv_at hl 2 rfl) ?_
        refine lv_aload_n hx hb dL_law_861 rfl (lv_at hl 0 rfl) ?_
        refine lv_iload_n hx hb dL_law_862 rfl (lv_at hl 3 rfl) ?_
        refine lv_iconst (v := 1) hx hb dL_law_863 (by decide) ?_
        refine lv_iadd hx hb dL_law_864 ?_
        refine va_sld hx hb hX hbl hbA hS (q_in g185) dL_law_865 ?_
        obtain ⟨q188, hq188, ht⟩ := it_b ht
        have hPc : va_P D vwCl (wg9 cI cZ (dd 16) S16) H := hP.sub [66, 67, 68, 69, 70, 71, 72, 73, 74, 75, 76, 77, 78, 79, 80, 81, 82, 83, 84, 85, 86, 87, 88] rfl
        refine q_ri (va_runV (As := [.int (xs (x3 + 1).toNatClampNeg)]) (rest := [.int q186]) ⟨hx, hb, hml, hown, hts⟩ (kX9_told l D cI cZ cO (dd 16) S16 (xs (x3 + 1).toNatClampNeg) q188 hq188) (cwV 1 hts gL_law_X9_told rfl rfl rfl (by decide +kernel) ⟨Nat.le_of_ble_eq_true rfl, Nat.le_of_ble_eq_true rfl⟩) (q_rV (As := [.int (xs (x3 + 1).toNatClampNeg)]) hE hPc (q0 := 0) (ci := 9) rfl rfl) rfl rfl hl.1 rfl (lv_room (Nat.le_of_ble_eq_true rfl)) dL_law_866 ⟨Nat.le_of_ble_eq_true rfl, Nat.le_of_ble_eq_true rfl⟩) (fun b189 => ?_)
        refine lv_icmp_eq (tgt := 874) hx hb dL_law_869 (by decide) (fun c190 => ?_) (fun c190 => ?_)
        · have ht := it_p c190 ht
          refine lv_iinc (v := x3 + 5) (lv' := [(3, .int (x3 + 5)), (0, .ref b), (1, .ref (dd 14 0)), (2, .ref (dd 16 0))]) hx hb dL_law_874 hl (k := 3) rfl rfl (by decide) rfl (fun ls hl => ?_)
          refine lv_goto (tgt := 18) hx hb dL_law_877 (by decide) ?_
          exact ih18 (x3 + 5) S0 S1 S2 S3 S4 S5 S6 S7 S8 S9 S10 S11 S12 S13 S16 _ _ hP hS ls (lv_sub hl [1, 2, 3, 0] rfl) ht
        · have ht := it_n c190 ht
          refine lv_iconst (v := 0) hx hb dL_law_872 (by decide) ?_
          exact absurd (Option.some.inj ht) (by decide)
      have ht := it_n c184 ht
      refine lv_tableOut (tgt := 874) hx hb dL_law_32 (by have n0 := lv_neT c3 (show (0 : Int32).toInt = 0 by decide); have n1 := lv_neT c12 (show (1 : Int32).toInt = 1 by decide); have n2 := lv_neT c22 (show (2 : Int32).toInt = 2 by decide); have n3 := lv_neT c31 (show (3 : Int32).toInt = 3 by decide); have n4 := lv_neT c38 (show (4 : Int32).toInt = 4 by decide); have n5 := lv_neT c45 (show (5 : Int32).toInt = 5 by decide); have n6 := lv_neT c51 (show (6 : Int32).toInt = 6 by decide); have n7 := lv_neT c57 (show (7 : Int32).toInt = 7 by decide); have n8 := lv_neT c64 (show (8 : Int32).toInt = 8 by decide); have n9 := lv_neT c72 (show (9 : Int32).toInt = 9 by decide); have n10 := lv_neT c80 (show (10 : Int32).toInt = 10 by decide); have n11 := lv_neT c87 (show (11 : Int32).toInt = 11 by decide); have n12 := lv_neT c94 (show (12 : Int32).toInt = 12 by decide); have n13 := lv_neT c100 (show (13 : Int32).toInt = 13 by decide); have n14 := lv_neT c108 (show (14 : Int32).toInt = 14 by decide); have n15 := lv_neT c116 (show (15 : Int32).toInt = 15 by decide); have n16 := lv_neT c125 (show (16 : Int32).toInt = 16 by decide); have n17 := lv_neT c131 (show (17 : Int32).toInt = 17 by decide); have n18 := lv_neT c138 (show (18 : Int32).toInt = 18 by decide); have n19 := lv_neT c145 (show (19 : Int32).toInt = 19 by decide); have n20 := lv_neT c153 (show (20 : Int32).toInt = 20 by decide); have n21 := lv_neT c161 (show (21 : Int32).toInt = 21 by decide); have n22 := lv_neT c170 (show (22 : Int32).toInt = 22 by decide); have n23 := lv_neT c177 (show (23 : Int32).toInt = 23 by decide); have n24 := lv_neT c184 (show (24 : Int32).toInt = 24 by decide); omega) (by decide) ?_
      refine lv_iinc (v := x3 + 5) (lv' := [(3, .int (x3 + 5)), (0, .ref b), (1, .ref (dd 14 0)), (2, .ref (dd 16 0))]) hx hb dL_law_874 hl (k := 3) rfl rfl (by decide) rfl (fun ls hl => ?_)
      refine lv_goto (tgt := 18) hx hb dL_law_877 (by decide) ?_
      exact ih18 (x3 + 5) S0 S1 S2 S3 S4 S5 S6 S7 S8 S9 S10 S11 S12 S13 S16 _ _ hP hS ls (lv_sub hl [1, 2, 3, 0] rfl) ht
