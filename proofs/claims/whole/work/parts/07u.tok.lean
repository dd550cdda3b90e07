/-! a token, by both -/
def mt (K : Nat) : Nat := if K = 0 then 0 else if K = 1 then 4 else if K = 2 then 2 else if K = 3 then 3 else 1
theorem mt_0 : mt 0 = 0 := rfl
theorem mt_1 : mt 1 = 4 := rfl
theorem mt_2 : mt 2 = 2 := rfl
theorem mt_3 : mt 3 = 3 := rfl
theorem mt_w {K : Nat} (h : 4 ≤ K) : mt K = 1 := by
  unfold mt
  rw [if_neg (by omega), if_neg (by omega), if_neg (by omega), if_neg (by omega)]
def TS (len : Nat) (bytes text : Nat → Int32) (q K pl nx num : Nat) : Prop :=
  K ≤ 7 ∧ q ≤ pl ∧ pl ≤ nx ∧ nx ≤ len ∧ (K ≠ 0 → q < nx) ∧ (K = 2 → num ≤ 99) ∧
  (∀ tok plc numb : Int32, ∃ num' : Int32, f_X7_readToken (nI len) tok plc numb (nI q) bytes = some (nI K, nI pl, num', nI nx) ∧ (K = 2 → num' = nI num)) ∧
  (∀ tok plc val : Int32, ∃ val' : Int32, f_X9_advances (nI len) (nI q) tok plc val text = some (nI nx, nI (mt K), nI pl, val') ∧ (K = 2 → val' = nI num) ∧ (4 ≤ K → val' = nI (K - 4)))
theorem k_t {K : Nat} {P : Prop} (h : K ≠ 2) : K = 2 → P := fun e => absurd e h
section TK2
variable {len : Nat} {b : Nat → Nat} {bytes text : Nat → Int32}
theorem tok_num (hB : gB len b bytes text) {p : Nat} (hp : p < len) (hd : dig (b p) = true) : ∃ K nx num, (K = 1 ∨ K = 2) ∧ p < nx ∧ nx ≤ len ∧ (K = 2 → num ≤ 99) ∧ (∀ tok numb : Int32, ∃ num' : Int32, f_X7_readToken_b38 (nI len) bytes tok numb (nI p) = some (nI K, nI p, num', nI nx) ∧ (K = 2 → num' = nI num)) ∧ (∃ val' : Int32, f_X9_advances_b175 (nI len) text (nI (b p)) (nI p) zF (nI p) (nI 0) = some (nI nx, nI (mt K), nI p, val') ∧ (K = 2 → val' = nI num)) := by
  have h1 := hB.1
  obtain ⟨c1, c2, c3⟩ := hB.2 p hp
  have ex := x_dig c1
  rw [hd, bI_t] at ex
  obtain ⟨nx, v, q1, q2, q3, q4, q5, q6, y, q7, q8⟩ := tk_num hB p (nI (b p)) (len - p) p zF zF 0 (by omega) (by unfold zF; omega) (by unfold zF; omega) (by omega)
  have q4' := q4 hp hd
  rw [show min 0 100 = 0 from rfl] at q5
  rw [f_X9_advances_b175] at q6
  unfold f_X9_advances_b274 f_X9_advances_b278 f_X9_advances_b279 at q6
  unfold f_X7_readNumber_b73 f_X7_readNumber_b104 f_X7_readNumber_b105 f_X7_readNumber_b120 f_X7_readNumber_b125 at q5
  by_cases hv : v ≤ 99
  · rw [show min v 100 = v by omega] at q5
    by_cases h48 : b p = 48
    · by_cases hn : nx - p ≤ 1
      · refine ⟨2, nx, v, Or.inr rfl, q4', q2, fun _ => hv, fun tok numb => ⟨nI v, ?_, fun _ => rfl⟩, nI v, ?_, fun _ => rfl⟩
        · unfold f_X7_readToken_b38 f_X7_readNumber
          (repeat (simp (disch := omega) only [li_0, li_1, li_2, li_3, li_4, li_5, li_6, li_7, li_8, li_9, li_10, li_11, li_12, li_13, li_14, li_15, li_16, li_17, li_18, li_19, li_20, li_21, li_22, li_23, li_24, li_25, li_26, li_27, li_28, li_29, li_30, li_31, li_32, li_34, li_35, li_40, li_41, li_45, li_48, li_49, li_50, li_57, li_58, li_59, li_60, li_61, li_64, li_65, li_97, li_99, li_100, li_115, li_116, li_121, li_122, li_200, li_255, li_256, li_300, li_999, li_1000, li_12345, li_65535, li_1103515245, if_true, if_false, nI_add, pk_mul, pk_sub, s_div, s_rem, s_cl, p_le_t, p_le_f, p_lt_t, p_lt_f, p_eq_t, p_eq_f, bd1_s, bd2_s, bd3_s, nm_s, gd_t, gd_in, gd_nz, gd_bz0, gd_bz1, gd_cp, c2, ex, q5]))
        · (repeat (simp (disch := omega) only [li_0, li_1, li_2, li_3, li_4, li_5, li_6, li_7, li_8, li_9, li_10, li_11, li_12, li_13, li_14, li_15, li_16, li_17, li_18, li_19, li_20, li_21, li_22, li_23, li_24, li_25, li_26, li_27, li_28, li_29, li_30, li_31, li_32, li_34, li_35, li_40, li_41, li_45, li_48, li_49, li_50, li_57, li_58, li_59, li_60, li_61, li_64, li_65, li_97, li_99, li_100, li_115, li_116, li_121, li_122, li_200, li_255, li_256, li_300, li_999, li_1000, li_12345, li_65535, li_1103515245, if_true, if_false, nI_add, pk_mul, pk_sub, s_div, s_rem, s_cl, p_le_t, p_le_f, p_lt_t, p_lt_f, p_eq_t, p_eq_f, bd1_s, bd2_s, bd3_s, nm_s, gd_t, gd_in, gd_nz, gd_bz0, gd_bz1, gd_cp, q6, q7, q8, mt_2]))
      · refine ⟨1, nx, 0, Or.inl rfl, q4', q2, k_t (by decide), fun tok numb => ⟨nI v, ?_, k_t (by decide)⟩, nI v, ?_, k_t (by decide)⟩
        · unfold f_X7_readToken_b38 f_X7_readNumber
          (repeat (simp (disch := omega) only [li_0, li_1, li_2, li_3, li_4, li_5, li_6, li_7, li_8, li_9, li_10, li_11, li_12, li_13, li_14, li_15, li_16, li_17, li_18, li_19, li_20, li_21, li_22, li_23, li_24, li_25, li_26, li_27, li_28, li_29, li_30, li_31, li_32, li_34, li_35, li_40, li_41, li_45, li_48, li_49, li_50, li_57, li_58, li_59, li_60, li_61, li_64, li_65, li_97, li_99, li_100, li_115, li_116, li_121, li_122, li_200, li_255, li_256, li_300, li_999, li_1000, li_12345, li_65535, li_1103515245, if_true, if_false, nI_add, pk_mul, pk_sub, s_div, s_rem, s_cl, p_le_t, p_le_f, p_lt_t, p_lt_f, p_eq_t, p_eq_f, bd1_s, bd2_s, bd3_s, nm_s, gd_t, gd_in, gd_nz, gd_bz0, gd_bz1, gd_cp, c2, ex, q5]))
        · (repeat (simp (disch := omega) only [li_0, li_1, li_2, li_3, li_4, li_5, li_6, li_7, li_8, li_9, li_10, li_11, li_12, li_13, li_14, li_15, li_16, li_17, li_18, li_19, li_20, li_21, li_22, li_23, li_24, li_25, li_26, li_27, li_28, li_29, li_30, li_31, li_32, li_34, li_35, li_40, li_41, li_45, li_48, li_49, li_50, li_57, li_58, li_59, li_60, li_61, li_64, li_65, li_97, li_99, li_100, li_115, li_116, li_121, li_122, li_200, li_255, li_256, li_300, li_999, li_1000, li_12345, li_65535, li_1103515245, if_true, if_false, nI_add, pk_mul, pk_sub, s_div, s_rem, s_cl, p_le_t, p_le_f, p_lt_t, p_lt_f, p_eq_t, p_eq_f, bd1_s, bd2_s, bd3_s, nm_s, gd_t, gd_in, gd_nz, gd_bz0, gd_bz1, gd_cp, q6, q7, q8, mt_1]))
    · refine ⟨2, nx, v, Or.inr rfl, q4', q2, fun _ => hv, fun tok numb => ⟨nI v, ?_, fun _ => rfl⟩, nI v, ?_, fun _ => rfl⟩
      · unfold f_X7_readToken_b38 f_X7_readNumber
        (repeat (simp (disch := omega) only [li_0, li_1, li_2, li_3, li_4, li_5, li_6, li_7, li_8, li_9, li_10, li_11, li_12, li_13, li_14, li_15, li_16, li_17, li_18, li_19, li_20, li_21, li_22, li_23, li_24, li_25, li_26, li_27, li_28, li_29, li_30, li_31, li_32, li_34, li_35, li_40, li_41, li_45, li_48, li_49, li_50, li_57, li_58, li_59, li_60, li_61, li_64, li_65, li_97, li_99, li_100, li_115, li_116, li_121, li_122, li_200, li_255, li_256, li_300, li_999, li_1000, li_12345, li_65535, li_1103515245, if_true, if_false, nI_add, pk_mul, pk_sub, s_div, s_rem, s_cl, p_le_t, p_le_f, p_lt_t, p_lt_f, p_eq_t, p_eq_f, bd1_s, bd2_s, bd3_s, nm_s, gd_t, gd_in, gd_nz, gd_bz0, gd_bz1, gd_cp, c2, ex, q5]))
      · (repeat (simp (disch := omega) only [li_0, li_1, li_2, li_3, li_4, li_5, li_6, li_7, li_8, li_9, li_10, li_11, li_12, li_13, li_14, li_15, li_16, li_17, li_18, li_19, li_20, li_21, li_22, li_23, li_24, li_25, li_26, li_27, li_28, li_29, li_30, li_31, li_32, li_34, li_35, li_40, li_41, li_45, li_48, li_49, li_50, li_57, li_58, li_59, li_60, li_61, li_64, li_65, li_97, li_99, li_100, li_115, li_116, li_121, li_122, li_200, li_255, li_256, li_300, li_999, li_1000, li_12345, li_65535, li_1103515245, if_true, if_false, nI_add, pk_mul, pk_sub, s_div, s_rem, s_cl, p_le_t, p_le_f, p_lt_t, p_lt_f, p_eq_t, p_eq_f, bd1_s, bd2_s, bd3_s, nm_s, gd_t, gd_in, gd_nz, gd_bz0, gd_bz1, gd_cp, q6, q7, q8, mt_2]))
  · rw [show min v 100 = 100 by omega] at q5
    refine ⟨1, nx, 0, Or.inl rfl, q4', q2, k_t (by decide), fun tok numb => ⟨nI 100, ?_, k_t (by decide)⟩, nI v, ?_, k_t (by decide)⟩
    · unfold f_X7_readToken_b38 f_X7_readNumber
      by_cases h48 : b p = 48
      · by_cases hn : nx - p ≤ 1
        · (repeat (simp (disch := omega) only [li_0, li_1, li_2, li_3, li_4, li_5, li_6, li_7, li_8, li_9, li_10, li_11, li_12, li_13, li_14, li_15, li_16, li_17, li_18, li_19, li_20, li_21, li_22, li_23, li_24, li_25, li_26, li_27, li_28, li_29, li_30, li_31, li_32, li_34, li_35, li_40, li_41, li_45, li_48, li_49, li_50, li_57, li_58, li_59, li_60, li_61, li_64, li_65, li_97, li_99, li_100, li_115, li_116, li_121, li_122, li_200, li_255, li_256, li_300, li_999, li_1000, li_12345, li_65535, li_1103515245, if_true, if_false, nI_add, pk_mul, pk_sub, s_div, s_rem, s_cl, p_le_t, p_le_f, p_lt_t, p_lt_f, p_eq_t, p_eq_f, bd1_s, bd2_s, bd3_s, nm_s, gd_t, gd_in, gd_nz, gd_bz0, gd_bz1, gd_cp, c2, ex, q5]))
        · (repeat (simp (disch := omega) only [li_0, li_1, li_2, li_3, li_4, li_5, li_6, li_7, li_8, li_9, li_10, li_11, li_12, li_13, li_14, li_15, li_16, li_17, li_18, li_19, li_20, li_21, li_22, li_23, li_24, li_25, li_26, li_27, li_28, li_29, li_30, li_31, li_32, li_34, li_35, li_40, li_41, li_45, li_48, li_49, li_50, li_57, li_58, li_59, li_60, li_61, li_64, li_65, li_97, li_99, li_100, li_115, li_116, li_121, li_122, li_200, li_255, li_256, li_300, li_999, li_1000, li_12345, li_65535, li_1103515245, if_true, if_false, nI_add, pk_mul, pk_sub, s_div, s_rem, s_cl, p_le_t, p_le_f, p_lt_t, p_lt_f, p_eq_t, p_eq_f, bd1_s, bd2_s, bd3_s, nm_s, gd_t, gd_in, gd_nz, gd_bz0, gd_bz1, gd_cp, c2, ex, q5]))
      · (repeat (simp (disch := omega) only [li_0, li_1, li_2, li_3, li_4, li_5, li_6, li_7, li_8, li_9, li_10, li_11, li_12, li_13, li_14, li_15, li_16, li_17, li_18, li_19, li_20, li_21, li_22, li_23, li_24, li_25, li_26, li_27, li_28, li_29, li_30, li_31, li_32, li_34, li_35, li_40, li_41, li_45, li_48, li_49, li_50, li_57, li_58, li_59, li_60, li_61, li_64, li_65, li_97, li_99, li_100, li_115, li_116, li_121, li_122, li_200, li_255, li_256, li_300, li_999, li_1000, li_12345, li_65535, li_1103515245, if_true, if_false, nI_add, pk_mul, pk_sub, s_div, s_rem, s_cl, p_le_t, p_le_f, p_lt_t, p_lt_f, p_eq_t, p_eq_f, bd1_s, bd2_s, bd3_s, nm_s, gd_t, gd_in, gd_nz, gd_bz0, gd_bz1, gd_cp, c2, ex, q5]))
    · (repeat (simp (disch := omega) only [li_0, li_1, li_2, li_3, li_4, li_5, li_6, li_7, li_8, li_9, li_10, li_11, li_12, li_13, li_14, li_15, li_16, li_17, li_18, li_19, li_20, li_21, li_22, li_23, li_24, li_25, li_26, li_27, li_28, li_29, li_30, li_31, li_32, li_34, li_35, li_40, li_41, li_45, li_48, li_49, li_50, li_57, li_58, li_59, li_60, li_61, li_64, li_65, li_97, li_99, li_100, li_115, li_116, li_121, li_122, li_200, li_255, li_256, li_300, li_999, li_1000, li_12345, li_65535, li_1103515245, if_true, if_false, nI_add, pk_mul, pk_sub, s_div, s_rem, s_cl, p_le_t, p_le_f, p_lt_t, p_lt_f, p_eq_t, p_eq_f, bd1_s, bd2_s, bd3_s, nm_s, gd_t, gd_in, gd_nz, gd_bz0, gd_bz1, gd_cp, q6, q7, q8, mt_1]))
theorem tok_word (hB : gB len b bytes text) {p : Nat} (hp : p < len) (hd : dig (b p) = false) (hl : lett (b p) = true) : ∃ K nx, (K = 1 ∨ (4 ≤ K ∧ K ≤ 7)) ∧ p < nx ∧ nx ≤ len ∧ (∀ tok numb : Int32, f_X7_readToken_b38 (nI len) bytes tok numb (nI p) = some (nI K, nI p, numb, nI nx)) ∧ (∃ val' : Int32, f_X9_advances_b68 (nI len) text (nI p) zF (0 : Int64) (nI p) = some (nI nx, nI (mt K), nI p, val') ∧ (4 ≤ K → val' = nI (K - 4))) := by
  have h1 := hB.1
  obtain ⟨c1, c2, c3⟩ := hB.2 p hp
  have ex := x_dig c1
  rw [hd, bI_f] at ex
  have el := x_let c1
  rw [hl, bI_t] at el
  obtain ⟨L, q1, q2, q3, q4, q5, q6, y, q7, q8⟩ := tk_word hB p (len - p) 0 zF zF (by omega) (by unfold zF; omega) (by unfold zF; omega)
  have q3' := q3 (by omega) hl
  rw [Nat.add_zero] at q5 q6
  have e0 : lN (hsh b p (min 0 7)) = (0 : Int64) := rfl
  rw [e0, f_X9_advances_b68] at q6
  unfold f_X9_advances_b153 at q6
  have hb : ∀ i, i < L → 97 ≤ b (p + i) ∧ b (p + i) ≤ 122 := fun i hi => lett_t.mp (q4 i (by omega) hi)
  obtain ⟨w0, w1, w2, w3⟩ := hs_eq (by omega) hb
  have hlt : hsh b p (min L 7) < 2 ^ 63 := by
    have a1 := hsh_lt b p (min L 7) (fun i hi => by have := hb i (by omega); omega)
    have a2 : 256 ^ (min L 7) ≤ 256 ^ 7 := Nat.pow_le_pow_right (by decide) (by omega)
    have a3 : 256 ^ 7 ≤ 2 ^ 63 := by decide
    omega
  have ew := m_wordOf hlt
  obtain ⟨i0, j0, k0⟩ := iw0 hB q2
  obtain ⟨i1, j1, k1⟩ := iw1 hB q2
  obtain ⟨i2, j2, k2⟩ := iw2 hB q2
  obtain ⟨i3, j3, k3⟩ := iw3 hB q2
  rw [← w0] at k0
  rw [← w1] at k1
  rw [← w2] at k2
  rw [← w3] at k3
  clear w0 w1 w2 w3
  generalize hsh b p (min L 7) = h at *
  have hw : ∃ (K : Nat) (val : Int32), ((K = 1 ∧ val = -nI 9) ∨ (4 ≤ K ∧ K ≤ 7 ∧ val = nI (K - 4))) ∧ f_X7_readWord_b39 (nI p) bytes (nI (p + L)) = some (nI K, nI (p + L)) ∧ f_X9_wordOf (lN h) = some val := by
    unfold f_X7_readWord_b39 f_X7_readWord_b107
    cases i0 with
    | true =>
      rw [bI_t] at j0
      rw [if_pos (k0.mp rfl)] at ew
      exact ⟨4, nI 0, Or.inr ⟨by decide, by decide, rfl⟩, by (repeat (simp (disch := omega) only [li_0, li_1, li_2, li_3, li_4, li_5, li_6, li_7, li_8, li_9, li_10, li_11, li_12, li_13, li_14, li_15, li_16, li_17, li_18, li_19, li_20, li_21, li_22, li_23, li_24, li_25, li_26, li_27, li_28, li_29, li_30, li_31, li_32, li_34, li_35, li_40, li_41, li_45, li_48, li_49, li_50, li_57, li_58, li_59, li_60, li_61, li_64, li_65, li_97, li_99, li_100, li_115, li_116, li_121, li_122, li_200, li_255, li_256, li_300, li_999, li_1000, li_12345, li_65535, li_1103515245, if_true, if_false, nI_add, pk_mul, pk_sub, s_div, s_rem, s_cl, p_le_t, p_le_f, p_lt_t, p_lt_f, p_eq_t, p_eq_f, bd1_s, bd2_s, bd3_s, nm_s, gd_t, gd_in, gd_nz, gd_bz0, gd_bz1, gd_cp, j0])), ew⟩
    | false =>
      rw [bI_f] at j0
      rw [if_neg (fun e => by cases k0.mpr e)] at ew
      cases i1 with
      | true =>
        rw [bI_t] at j1
        rw [if_pos (k1.mp rfl)] at ew
        exact ⟨5, nI 1, Or.inr ⟨by decide, by decide, rfl⟩, by (repeat (simp (disch := omega) only [li_0, li_1, li_2, li_3, li_4, li_5, li_6, li_7, li_8, li_9, li_10, li_11, li_12, li_13, li_14, li_15, li_16, li_17, li_18, li_19, li_20, li_21, li_22, li_23, li_24, li_25, li_26, li_27, li_28, li_29, li_30, li_31, li_32, li_34, li_35, li_40, li_41, li_45, li_48, li_49, li_50, li_57, li_58, li_59, li_60, li_61, li_64, li_65, li_97, li_99, li_100, li_115, li_116, li_121, li_122, li_200, li_255, li_256, li_300, li_999, li_1000, li_12345, li_65535, li_1103515245, if_true, if_false, nI_add, pk_mul, pk_sub, s_div, s_rem, s_cl, p_le_t, p_le_f, p_lt_t, p_lt_f, p_eq_t, p_eq_f, bd1_s, bd2_s, bd3_s, nm_s, gd_t, gd_in, gd_nz, gd_bz0, gd_bz1, gd_cp, j0, j1])), ew⟩
      | false =>
        rw [bI_f] at j1
        rw [if_neg (fun e => by cases k1.mpr e)] at ew
        cases i2 with
        | true =>
          rw [bI_t] at j2
          rw [if_pos (k2.mp rfl)] at ew
          exact ⟨6, nI 2, Or.inr ⟨by decide, by decide, rfl⟩, by (repeat (simp (disch := omega) only [li_0, li_1, li_2, li_3, li_4, li_5, li_6, li_7, li_8, li_9, li_10, li_11, li_12, li_13, li_14, li_15, li_16, li_17, li_18, li_19, li_20, li_21, li_22, li_23, li_24, li_25, li_26, li_27, li_28, li_29, li_30, li_31, li_32, li_34, li_35, li_40, li_41, li_45, li_48, li_49, li_50, li_57, li_58, li_59, li_60, li_61, li_64, li_65, li_97, li_99, li_100, li_115, li_116, li_121, li_122, li_200, li_255, li_256, li_300, li_999, li_1000, li_12345, li_65535, li_1103515245, if_true, if_false, nI_add, pk_mul, pk_sub, s_div, s_rem, s_cl, p_le_t, p_le_f, p_lt_t, p_lt_f, p_eq_t, p_eq_f, bd1_s, bd2_s, bd3_s, nm_s, gd_t, gd_in, gd_nz, gd_bz0, gd_bz1, gd_cp, j0, j1, j2])), ew⟩
        | false =>
          rw [bI_f] at j2
          rw [if_neg (fun e => by cases k2.mpr e)] at ew
          cases i3 with
          | true =>
            rw [bI_t] at j3
            rw [if_pos (k3.mp rfl)] at ew
            exact ⟨7, nI 3, Or.inr ⟨by decide, by decide, rfl⟩, by (repeat (simp (disch := omega) only [li_0, li_1, li_2, li_3, li_4, li_5, li_6, li_7, li_8, li_9, li_10, li_11, li_12, li_13, li_14, li_15, li_16, li_17, li_18, li_19, li_20, li_21, li_22, li_23, li_24, li_25, li_26, li_27, li_28, li_29, li_30, li_31, li_32, li_34, li_35, li_40, li_41, li_45, li_48, li_49, li_50, li_57, li_58, li_59, li_60, li_61, li_64, li_65, li_97, li_99, li_100, li_115, li_116, li_121, li_122, li_200, li_255, li_256, li_300, li_999, li_1000, li_12345, li_65535, li_1103515245, if_true, if_false, nI_add, pk_mul, pk_sub, s_div, s_rem, s_cl, p_le_t, p_le_f, p_lt_t, p_lt_f, p_eq_t, p_eq_f, bd1_s, bd2_s, bd3_s, nm_s, gd_t, gd_in, gd_nz, gd_bz0, gd_bz1, gd_cp, j0, j1, j2, j3])), ew⟩
          | false =>
            rw [bI_f] at j3
            rw [if_neg (fun e => by cases k3.mpr e)] at ew
            exact ⟨1, -nI 9, Or.inl ⟨rfl, rfl⟩, by (repeat (simp (disch := omega) only [li_0, li_1, li_2, li_3, li_4, li_5, li_6, li_7, li_8, li_9, li_10, li_11, li_12, li_13, li_14, li_15, li_16, li_17, li_18, li_19, li_20, li_21, li_22, li_23, li_24, li_25, li_26, li_27, li_28, li_29, li_30, li_31, li_32, li_34, li_35, li_40, li_41, li_45, li_48, li_49, li_50, li_57, li_58, li_59, li_60, li_61, li_64, li_65, li_97, li_99, li_100, li_115, li_116, li_121, li_122, li_200, li_255, li_256, li_300, li_999, li_1000, li_12345, li_65535, li_1103515245, if_true, if_false, nI_add, pk_mul, pk_sub, s_div, s_rem, s_cl, p_le_t, p_le_f, p_lt_t, p_lt_f, p_eq_t, p_eq_f, bd1_s, bd2_s, bd3_s, nm_s, gd_t, gd_in, gd_nz, gd_bz0, gd_bz1, gd_cp, j0, j1, j2, j3])), ew⟩
  obtain ⟨K, val, hK, hc, hm⟩ := hw
  have hcl : ∀ tok numb : Int32, f_X7_readToken_b38 (nI len) bytes tok numb (nI p) = some (nI K, nI p, numb, nI (p + L)) := by
    intro tok numb
    unfold f_X7_readToken_b38 f_X7_readWord
    (repeat (simp (disch := omega) only [li_0, li_1, li_2, li_3, li_4, li_5, li_6, li_7, li_8, li_9, li_10, li_11, li_12, li_13, li_14, li_15, li_16, li_17, li_18, li_19, li_20, li_21, li_22, li_23, li_24, li_25, li_26, li_27, li_28, li_29, li_30, li_31, li_32, li_34, li_35, li_40, li_41, li_45, li_48, li_49, li_50, li_57, li_58, li_59, li_60, li_61, li_64, li_65, li_97, li_99, li_100, li_115, li_116, li_121, li_122, li_200, li_255, li_256, li_300, li_999, li_1000, li_12345, li_65535, li_1103515245, if_true, if_false, nI_add, pk_mul, pk_sub, s_div, s_rem, s_cl, p_le_t, p_le_f, p_lt_t, p_lt_f, p_eq_t, p_eq_f, bd1_s, bd2_s, bd3_s, nm_s, gd_t, gd_in, gd_nz, gd_bz0, gd_bz1, gd_cp, c2, ex, el, q5, hc]))
  rcases hK with ⟨hK, hv⟩ | ⟨hK1, hK2, hv⟩
  · subst hK hv
    refine ⟨1, p + L, Or.inl rfl, by omega, q2, hcl, -nI 9, ?_, fun e => by omega⟩
    (repeat (simp (disch := omega) only [li_0, li_1, li_2, li_3, li_4, li_5, li_6, li_7, li_8, li_9, li_10, li_11, li_12, li_13, li_14, li_15, li_16, li_17, li_18, li_19, li_20, li_21, li_22, li_23, li_24, li_25, li_26, li_27, li_28, li_29, li_30, li_31, li_32, li_34, li_35, li_40, li_41, li_45, li_48, li_49, li_50, li_57, li_58, li_59, li_60, li_61, li_64, li_65, li_97, li_99, li_100, li_115, li_116, li_121, li_122, li_200, li_255, li_256, li_300, li_999, li_1000, li_12345, li_65535, li_1103515245, if_true, if_false, nI_add, pk_mul, pk_sub, s_div, s_rem, s_cl, p_le_t, p_le_f, p_lt_t, p_lt_f, p_eq_t, p_eq_f, bd1_s, bd2_s, bd3_s, nm_s, gd_t, gd_in, gd_nz, gd_bz0, gd_bz1, gd_cp, q6, q7, q8, hm, mt_1]))
  · subst hv
    refine ⟨K, p + L, Or.inr ⟨hK1, hK2⟩, by omega, q2, hcl, nI (K - 4), ?_, fun _ => rfl⟩
    have h9 := ne_m9 (K - 4) (by omega)
    have e5 := mt_w hK1
    (repeat (simp (disch := omega) only [li_0, li_1, li_2, li_3, li_4, li_5, li_6, li_7, li_8, li_9, li_10, li_11, li_12, li_13, li_14, li_15, li_16, li_17, li_18, li_19, li_20, li_21, li_22, li_23, li_24, li_25, li_26, li_27, li_28, li_29, li_30, li_31, li_32, li_34, li_35, li_40, li_41, li_45, li_48, li_49, li_50, li_57, li_58, li_59, li_60, li_61, li_64, li_65, li_97, li_99, li_100, li_115, li_116, li_121, li_122, li_200, li_255, li_256, li_300, li_999, li_1000, li_12345, li_65535, li_1103515245, if_true, if_false, nI_add, pk_mul, pk_sub, s_div, s_rem, s_cl, p_le_t, p_le_f, p_lt_t, p_lt_f, p_eq_t, p_eq_f, bd1_s, bd2_s, bd3_s, nm_s, gd_t, gd_in, gd_nz, gd_bz0, gd_bz1, gd_cp, q6, q7, q8, hm, h9, e5]))
theorem tok (hB : gB len b bytes text) {q : Nat} (hq : q ≤ len) : ∃ K pl nx num, TS len bytes text q K pl nx num := by
  have h1 := hB.1
  obtain ⟨p, p1, p2, p3, p4, p5⟩ := tk_skip hB (len - q) q zF zF (by omega) (by unfold zF; omega) (by unfold zF; omega)
  by_cases hp : p = len
  · subst hp
    have e := bA_end hB
    refine ⟨0, p, p, 0, by decide, p1, Nat.le_refl p, Nat.le_refl p, fun h => absurd rfl h, k_t (by decide), fun tok plc numb => ⟨numb, ?_, k_t (by decide)⟩, fun tok plc val => ⟨val, ?_, k_t (by decide), fun h => by omega⟩⟩
    · unfold f_X7_readToken
      rw [p4 tok numb]
      unfold f_X7_readToken_b38
      (repeat (simp (disch := omega) only [li_0, li_1, li_2, li_3, li_4, li_5, li_6, li_7, li_8, li_9, li_10, li_11, li_12, li_13, li_14, li_15, li_16, li_17, li_18, li_19, li_20, li_21, li_22, li_23, li_24, li_25, li_26, li_27, li_28, li_29, li_30, li_31, li_32, li_34, li_35, li_40, li_41, li_45, li_48, li_49, li_50, li_57, li_58, li_59, li_60, li_61, li_64, li_65, li_97, li_99, li_100, li_115, li_116, li_121, li_122, li_200, li_255, li_256, li_300, li_999, li_1000, li_12345, li_65535, li_1103515245, if_true, if_false, nI_add, pk_mul, pk_sub, s_div, s_rem, s_cl, p_le_t, p_le_f, p_lt_t, p_lt_f, p_eq_t, p_eq_f, bd1_s, bd2_s, bd3_s, nm_s, gd_t, gd_in, gd_nz, gd_bz0, gd_bz1, gd_cp]))
    · unfold f_X9_advances
      rw [p5 val, f_X9_advances_b0]
      (repeat (simp (disch := omega) only [li_0, li_1, li_2, li_3, li_4, li_5, li_6, li_7, li_8, li_9, li_10, li_11, li_12, li_13, li_14, li_15, li_16, li_17, li_18, li_19, li_20, li_21, li_22, li_23, li_24, li_25, li_26, li_27, li_28, li_29, li_30, li_31, li_32, li_34, li_35, li_40, li_41, li_45, li_48, li_49, li_50, li_57, li_58, li_59, li_60, li_61, li_64, li_65, li_97, li_99, li_100, li_115, li_116, li_121, li_122, li_200, li_255, li_256, li_300, li_999, li_1000, li_12345, li_65535, li_1103515245, if_true, if_false, nI_add, pk_mul, pk_sub, s_div, s_rem, s_cl, p_le_t, p_le_f, p_lt_t, p_lt_f, p_eq_t, p_eq_f, bd1_s, bd2_s, bd3_s, nm_s, gd_t, gd_in, gd_nz, gd_bz0, gd_bz1, gd_cp, e, m1_32, m1_0, mt_0]))
  · have hp2 : p < len := by omega
    obtain ⟨c1, c2, c3⟩ := hB.2 p hp2
    have n32 := p3 hp2
    have e := bA_in hB hp2
    have ed := m_dig c1
    have el := m_let c1
    have xd := x_dig c1
    have xl := x_let c1
    cases hd : dig (b p) with
    | true =>
      obtain ⟨d1, d2⟩ := dig_t.mp hd
      have hl : lett (b p) = false := by
        cases h : lett (b p) with
        | false => rfl
        | true => have := lett_t.mp h; omega
      rw [hd, bI_t] at ed
      rw [hl, bI_f] at el
      obtain ⟨K, nx, num, t1, t2, t3, t4, t5, val', t6, t7⟩ := tok_num hB hp2 hd
      refine ⟨K, p, nx, num, by omega, p1, by omega, t3, fun _ => by omega, t4, fun tok plc numb => ?_, fun tok plc val => ⟨val', ?_, t7, fun h => by omega⟩⟩
      · obtain ⟨num', u1, u2⟩ := t5 tok numb
        refine ⟨num', ?_, u2⟩
        unfold f_X7_readToken
        rw [p4 tok numb, u1]
      · unfold f_X9_advances
        rw [p5 val, f_X9_advances_b0]
        (repeat (simp (disch := omega) only [li_0, li_1, li_2, li_3, li_4, li_5, li_6, li_7, li_8, li_9, li_10, li_11, li_12, li_13, li_14, li_15, li_16, li_17, li_18, li_19, li_20, li_21, li_22, li_23, li_24, li_25, li_26, li_27, li_28, li_29, li_30, li_31, li_32, li_34, li_35, li_40, li_41, li_45, li_48, li_49, li_50, li_57, li_58, li_59, li_60, li_61, li_64, li_65, li_97, li_99, li_100, li_115, li_116, li_121, li_122, li_200, li_255, li_256, li_300, li_999, li_1000, li_12345, li_65535, li_1103515245, if_true, if_false, nI_add, pk_mul, pk_sub, s_div, s_rem, s_cl, p_le_t, p_le_f, p_lt_t, p_lt_f, p_eq_t, p_eq_f, bd1_s, bd2_s, bd3_s, nm_s, gd_t, gd_in, gd_nz, gd_bz0, gd_bz1, gd_cp, e, ed, el, t6]))
    | false =>
      rw [hd, bI_f] at ed xd
      cases hl : lett (b p) with
      | true =>
        rw [hl, bI_t] at el
        obtain ⟨K, nx, t1, t2, t3, t5, val', t6, t7⟩ := tok_word hB hp2 hd hl
        refine ⟨K, p, nx, 0, by omega, p1, by omega, t3, fun _ => by omega, k_t (by omega), fun tok plc numb => ⟨numb, ?_, k_t (by omega)⟩, fun tok plc val => ⟨val', ?_, k_t (by omega), t7⟩⟩
        · unfold f_X7_readToken
          rw [p4 tok numb, t5 tok numb]
        · unfold f_X9_advances
          rw [p5 val, f_X9_advances_b0]
          (repeat (simp (disch := omega) only [li_0, li_1, li_2, li_3, li_4, li_5, li_6, li_7, li_8, li_9, li_10, li_11, li_12, li_13, li_14, li_15, li_16, li_17, li_18, li_19, li_20, li_21, li_22, li_23, li_24, li_25, li_26, li_27, li_28, li_29, li_30, li_31, li_32, li_34, li_35, li_40, li_41, li_45, li_48, li_49, li_50, li_57, li_58, li_59, li_60, li_61, li_64, li_65, li_97, li_99, li_100, li_115, li_116, li_121, li_122, li_200, li_255, li_256, li_300, li_999, li_1000, li_12345, li_65535, li_1103515245, if_true, if_false, nI_add, pk_mul, pk_sub, s_div, s_rem, s_cl, p_le_t, p_le_f, p_lt_t, p_lt_f, p_eq_t, p_eq_f, bd1_s, bd2_s, bd3_s, nm_s, gd_t, gd_in, gd_nz, gd_bz0, gd_bz1, gd_cp, e, el, t6]))
      | false =>
        rw [hl, bI_f] at el xl
        by_cases h59 : b p = 59
        · refine ⟨3, p, p + 1, 0, by decide, p1, by omega, by omega, fun _ => by omega, k_t (by decide), fun tok plc numb => ⟨numb, ?_, k_t (by decide)⟩, fun tok plc val => ⟨val, ?_, k_t (by decide), fun h => by omega⟩⟩
          · unfold f_X7_readToken
            rw [p4 tok numb]
            unfold f_X7_readToken_b38 f_X7_readToken_b129
            (repeat (simp (disch := omega) only [li_0, li_1, li_2, li_3, li_4, li_5, li_6, li_7, li_8, li_9, li_10, li_11, li_12, li_13, li_14, li_15, li_16, li_17, li_18, li_19, li_20, li_21, li_22, li_23, li_24, li_25, li_26, li_27, li_28, li_29, li_30, li_31, li_32, li_34, li_35, li_40, li_41, li_45, li_48, li_49, li_50, li_57, li_58, li_59, li_60, li_61, li_64, li_65, li_97, li_99, li_100, li_115, li_116, li_121, li_122, li_200, li_255, li_256, li_300, li_999, li_1000, li_12345, li_65535, li_1103515245, if_true, if_false, nI_add, pk_mul, pk_sub, s_div, s_rem, s_cl, p_le_t, p_le_f, p_lt_t, p_lt_f, p_eq_t, p_eq_f, bd1_s, bd2_s, bd3_s, nm_s, gd_t, gd_in, gd_nz, gd_bz0, gd_bz1, gd_cp, c2, xd, xl]))
          · unfold f_X9_advances
            rw [p5 val, f_X9_advances_b0]
            unfold f_X9_advances_b307
            (repeat (simp (disch := omega) only [li_0, li_1, li_2, li_3, li_4, li_5, li_6, li_7, li_8, li_9, li_10, li_11, li_12, li_13, li_14, li_15, li_16, li_17, li_18, li_19, li_20, li_21, li_22, li_23, li_24, li_25, li_26, li_27, li_28, li_29, li_30, li_31, li_32, li_34, li_35, li_40, li_41, li_45, li_48, li_49, li_50, li_57, li_58, li_59, li_60, li_61, li_64, li_65, li_97, li_99, li_100, li_115, li_116, li_121, li_122, li_200, li_255, li_256, li_300, li_999, li_1000, li_12345, li_65535, li_1103515245, if_true, if_false, nI_add, pk_mul, pk_sub, s_div, s_rem, s_cl, p_le_t, p_le_f, p_lt_t, p_lt_f, p_eq_t, p_eq_f, bd1_s, bd2_s, bd3_s, nm_s, gd_t, gd_in, gd_nz, gd_bz0, gd_bz1, gd_cp, e, ed, el, mt_3]))
        · refine ⟨1, p, p + 1, 0, by decide, p1, by omega, by omega, fun _ => by omega, k_t (by decide), fun tok plc numb => ⟨numb, ?_, k_t (by decide)⟩, fun tok plc val => ⟨val, ?_, k_t (by decide), fun h => by omega⟩⟩
          · unfold f_X7_readToken
            rw [p4 tok numb]
            unfold f_X7_readToken_b38 f_X7_readToken_b129
            (repeat (simp (disch := omega) only [li_0, li_1, li_2, li_3, li_4, li_5, li_6, li_7, li_8, li_9, li_10, li_11, li_12, li_13, li_14, li_15, li_16, li_17, li_18, li_19, li_20, li_21, li_22, li_23, li_24, li_25, li_26, li_27, li_28, li_29, li_30, li_31, li_32, li_34, li_35, li_40, li_41, li_45, li_48, li_49, li_50, li_57, li_58, li_59, li_60, li_61, li_64, li_65, li_97, li_99, li_100, li_115, li_116, li_121, li_122, li_200, li_255, li_256, li_300, li_999, li_1000, li_12345, li_65535, li_1103515245, if_true, if_false, nI_add, pk_mul, pk_sub, s_div, s_rem, s_cl, p_le_t, p_le_f, p_lt_t, p_lt_f, p_eq_t, p_eq_f, bd1_s, bd2_s, bd3_s, nm_s, gd_t, gd_in, gd_nz, gd_bz0, gd_bz1, gd_cp, c2, xd, xl]))
          · unfold f_X9_advances
            rw [p5 val, f_X9_advances_b0]
            unfold f_X9_advances_b307
            (repeat (simp (disch := omega) only [li_0, li_1, li_2, li_3, li_4, li_5, li_6, li_7, li_8, li_9, li_10, li_11, li_12, li_13, li_14, li_15, li_16, li_17, li_18, li_19, li_20, li_21, li_22, li_23, li_24, li_25, li_26, li_27, li_28, li_29, li_30, li_31, li_32, li_34, li_35, li_40, li_41, li_45, li_48, li_49, li_50, li_57, li_58, li_59, li_60, li_61, li_64, li_65, li_97, li_99, li_100, li_115, li_116, li_121, li_122, li_200, li_255, li_256, li_300, li_999, li_1000, li_12345, li_65535, li_1103515245, if_true, if_false, nI_add, pk_mul, pk_sub, s_div, s_rem, s_cl, p_le_t, p_le_f, p_lt_t, p_lt_f, p_eq_t, p_eq_f, bd1_s, bd2_s, bd3_s, nm_s, gd_t, gd_in, gd_nz, gd_bz0, gd_bz1, gd_cp, e, ed, el, mt_1]))
end TK2
