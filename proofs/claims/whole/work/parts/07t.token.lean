/-! the text's tokens -/
def gB (len : Nat) (b : Nat → Nat) (bytes text : Nat → Int32) : Prop := len ≤ 300 ∧ ∀ j, j < len → b j < 256 ∧ bytes j = nI (b j) ∧ text j = nI (b j)
def dig (c : Nat) : Bool := decide (48 ≤ c) && decide (c ≤ 57)
def lett (c : Nat) : Bool := decide (97 ≤ c) && decide (c ≤ 122)
theorem dig_t {c : Nat} : dig c = true ↔ 48 ≤ c ∧ c ≤ 57 := by
  unfold dig
  rw [Bool.and_eq_true, decide_eq_true_iff, decide_eq_true_iff]
theorem lett_t {c : Nat} : lett c = true ↔ 97 ≤ c ∧ c ≤ 122 := by
  unfold lett
  rw [Bool.and_eq_true, decide_eq_true_iff, decide_eq_true_iff]
theorem rng {c a e : Nat} (hc : c < 1000000) (he : e < 1000000) (ha : a < 1000000) : f_X8_isWithin (nI c) (nI a) (nI e) = some (bI (decide (a ≤ c) && decide (c ≤ e))) := by
  by_cases h1 : a ≤ c
  · by_cases h2 : c ≤ e
    · rw [wi_in h1 h2 he, decide_eq_true h1, decide_eq_true h2]; rfl
    · rw [wi_no (Or.inr (by omega)) hc ha, decide_eq_false h2, Bool.and_false]; rfl
  · rw [wi_no (Or.inl (by omega)) hc ha, decide_eq_false h1, Bool.false_and]; rfl
theorem m_dig {c : Nat} (hc : c < 256) : f_X9_in (nI c) (nI 48) (nI 57) = some (bI (dig c)) := rng (by omega) (by decide) (by decide)
theorem m_let {c : Nat} (hc : c < 256) : f_X9_in (nI c) (nI 97) (nI 122) = some (bI (lett c)) := rng (by omega) (by decide) (by decide)
theorem x_dig {c : Nat} (hc : c < 256) : f_X7_isDigit (nI c) = some (bI (dig c)) := m_dig hc
theorem x_let {c : Nat} (hc : c < 256) : f_X7_isLetter (nI c) = some (bI (lett c)) := m_let hc
theorem m_digE : f_X9_in (-nI 1) (nI 48) (nI 57) = some (nI 0) := by decide +kernel
theorem m_letE : f_X9_in (-nI 1) (nI 97) (nI 122) = some (nI 0) := by decide +kernel
theorem m1_32 : (-nI 1 = nI 32) = False := eq_false (by decide)
theorem m1_0 : (nI 0 ≤ -nI 1) = False := eq_false (by decide)
section TK
variable {len : Nat} {b : Nat → Nat} {bytes text : Nat → Int32}
theorem bA_in (hB : gB len b bytes text) {p : Nat} (hp : p < len) : f_X9_byteAt (nI len) text (nI p) = some (nI (b p)) := by
  have h1 := hB.1
  have h2 := (hB.2 p hp).2.2
  unfold f_X9_byteAt
  (repeat (simp (disch := omega) only [li_0, li_1, li_2, li_3, li_4, li_5, li_6, li_7, li_8, li_9, li_10, li_11, li_12, li_13, li_14, li_15, li_16, li_17, li_18, li_19, li_20, li_21, li_22, li_23, li_24, li_25, li_26, li_27, li_28, li_29, li_30, li_31, li_32, li_34, li_35, li_40, li_41, li_45, li_48, li_49, li_50, li_57, li_58, li_59, li_60, li_61, li_64, li_65, li_97, li_99, li_100, li_115, li_116, li_121, li_122, li_200, li_255, li_256, li_300, li_999, li_1000, li_12345, li_65535, li_1103515245, if_true, if_false, nI_add, pk_mul, pk_sub, s_div, s_rem, s_cl, p_le_t, p_le_f, p_lt_t, p_lt_f, p_eq_t, p_eq_f, bd1_s, bd2_s, bd3_s, nm_s, gd_t, gd_in, gd_nz, gd_bz0, gd_bz1, gd_cp, h2]))
theorem bA_end (hB : gB len b bytes text) : f_X9_byteAt (nI len) text (nI len) = some (-nI 1) := by
  have h1 := hB.1
  unfold f_X9_byteAt
  (repeat (simp (disch := omega) only [li_0, li_1, li_2, li_3, li_4, li_5, li_6, li_7, li_8, li_9, li_10, li_11, li_12, li_13, li_14, li_15, li_16, li_17, li_18, li_19, li_20, li_21, li_22, li_23, li_24, li_25, li_26, li_27, li_28, li_29, li_30, li_31, li_32, li_34, li_35, li_40, li_41, li_45, li_48, li_49, li_50, li_57, li_58, li_59, li_60, li_61, li_64, li_65, li_97, li_99, li_100, li_115, li_116, li_121, li_122, li_200, li_255, li_256, li_300, li_999, li_1000, li_12345, li_65535, li_1103515245, if_true, if_false, nI_add, pk_mul, pk_sub, s_div, s_rem, s_cl, p_le_t, p_le_f, p_lt_t, p_lt_f, p_eq_t, p_eq_f, bd1_s, bd2_s, bd3_s, nm_s, gd_t, gd_in, gd_nz, gd_bz0, gd_bz1, gd_cp]))
theorem tk_skip (hB : gB len b bytes text) : ∀ (r q nn mm : Nat), q + r = len → r < nn → r < mm → ∃ p, q ≤ p ∧ p ≤ len ∧ (p < len → b p ≠ 32) ∧ (∀ tok num : Int32, f_X7_readToken_b0 (nI len) bytes tok num nn (nI q) = f_X7_readToken_b38 (nI len) bytes tok num (nI p)) ∧ (∀ val : Int32, f_X9_advances_b0 (nI len) text val mm (nI q) = f_X9_advances_b0 (nI len) text val (0 + 1) (nI p)) := by
  have h1 := hB.1
  intro r
  induction r with
  | zero =>
    intro q nn mm hq hnn hmm
    obtain ⟨m, rfl⟩ : ∃ m, nn = m + 1 := ⟨nn - 1, by omega⟩
    obtain ⟨k, rfl⟩ : ∃ m, mm = m + 1 := ⟨mm - 1, by omega⟩
    have hq2 : q = len := by omega
    subst hq2
    have e := bA_end hB
    refine ⟨q, Nat.le_refl q, Nat.le_refl q, fun h => by omega, fun tok num => ?_, fun val => ?_⟩
    · rw [f_X7_readToken_b0]
      (repeat (simp (disch := omega) only [li_0, li_1, li_2, li_3, li_4, li_5, li_6, li_7, li_8, li_9, li_10, li_11, li_12, li_13, li_14, li_15, li_16, li_17, li_18, li_19, li_20, li_21, li_22, li_23, li_24, li_25, li_26, li_27, li_28, li_29, li_30, li_31, li_32, li_34, li_35, li_40, li_41, li_45, li_48, li_49, li_50, li_57, li_58, li_59, li_60, li_61, li_64, li_65, li_97, li_99, li_100, li_115, li_116, li_121, li_122, li_200, li_255, li_256, li_300, li_999, li_1000, li_12345, li_65535, li_1103515245, if_true, if_false, nI_add, pk_mul, pk_sub, s_div, s_rem, s_cl, p_le_t, p_le_f, p_lt_t, p_lt_f, p_eq_t, p_eq_f, bd1_s, bd2_s, bd3_s, nm_s, gd_t, gd_in, gd_nz, gd_bz0, gd_bz1, gd_cp]))
    · rw [f_X9_advances_b0, f_X9_advances_b0]
      (repeat (simp (disch := omega) only [li_0, li_1, li_2, li_3, li_4, li_5, li_6, li_7, li_8, li_9, li_10, li_11, li_12, li_13, li_14, li_15, li_16, li_17, li_18, li_19, li_20, li_21, li_22, li_23, li_24, li_25, li_26, li_27, li_28, li_29, li_30, li_31, li_32, li_34, li_35, li_40, li_41, li_45, li_48, li_49, li_50, li_57, li_58, li_59, li_60, li_61, li_64, li_65, li_97, li_99, li_100, li_115, li_116, li_121, li_122, li_200, li_255, li_256, li_300, li_999, li_1000, li_12345, li_65535, li_1103515245, if_true, if_false, nI_add, pk_mul, pk_sub, s_div, s_rem, s_cl, p_le_t, p_le_f, p_lt_t, p_lt_f, p_eq_t, p_eq_f, bd1_s, bd2_s, bd3_s, nm_s, gd_t, gd_in, gd_nz, gd_bz0, gd_bz1, gd_cp, e, m1_32]))
  | succ r ih =>
    intro q nn mm hq hnn hmm
    obtain ⟨m, rfl⟩ : ∃ m, nn = m + 1 := ⟨nn - 1, by omega⟩
    obtain ⟨k, rfl⟩ : ∃ m, mm = m + 1 := ⟨mm - 1, by omega⟩
    obtain ⟨c1, c2, c3⟩ := hB.2 q (by omega)
    have e := bA_in hB (show q < len by omega)
    by_cases h32 : b q = 32
    · obtain ⟨p, p1, p2, p3, p4, p5⟩ := ih (q + 1) m k (by omega) (by omega) (by omega)
      refine ⟨p, by omega, p2, p3, fun tok num => ?_, fun val => ?_⟩
      · rw [f_X7_readToken_b0]
        (repeat (simp (disch := omega) only [li_0, li_1, li_2, li_3, li_4, li_5, li_6, li_7, li_8, li_9, li_10, li_11, li_12, li_13, li_14, li_15, li_16, li_17, li_18, li_19, li_20, li_21, li_22, li_23, li_24, li_25, li_26, li_27, li_28, li_29, li_30, li_31, li_32, li_34, li_35, li_40, li_41, li_45, li_48, li_49, li_50, li_57, li_58, li_59, li_60, li_61, li_64, li_65, li_97, li_99, li_100, li_115, li_116, li_121, li_122, li_200, li_255, li_256, li_300, li_999, li_1000, li_12345, li_65535, li_1103515245, if_true, if_false, nI_add, pk_mul, pk_sub, s_div, s_rem, s_cl, p_le_t, p_le_f, p_lt_t, p_lt_f, p_eq_t, p_eq_f, bd1_s, bd2_s, bd3_s, nm_s, gd_t, gd_in, gd_nz, gd_bz0, gd_bz1, gd_cp, c2, h32, p4 tok num]))
      · rw [f_X9_advances_b0]
        (repeat (simp (disch := omega) only [li_0, li_1, li_2, li_3, li_4, li_5, li_6, li_7, li_8, li_9, li_10, li_11, li_12, li_13, li_14, li_15, li_16, li_17, li_18, li_19, li_20, li_21, li_22, li_23, li_24, li_25, li_26, li_27, li_28, li_29, li_30, li_31, li_32, li_34, li_35, li_40, li_41, li_45, li_48, li_49, li_50, li_57, li_58, li_59, li_60, li_61, li_64, li_65, li_97, li_99, li_100, li_115, li_116, li_121, li_122, li_200, li_255, li_256, li_300, li_999, li_1000, li_12345, li_65535, li_1103515245, if_true, if_false, nI_add, pk_mul, pk_sub, s_div, s_rem, s_cl, p_le_t, p_le_f, p_lt_t, p_lt_f, p_eq_t, p_eq_f, bd1_s, bd2_s, bd3_s, nm_s, gd_t, gd_in, gd_nz, gd_bz0, gd_bz1, gd_cp, e, h32, p5 val]))
    · refine ⟨q, Nat.le_refl q, by omega, fun _ => h32, fun tok num => ?_, fun val => ?_⟩
      · rw [f_X7_readToken_b0]
        (repeat (simp (disch := omega) only [li_0, li_1, li_2, li_3, li_4, li_5, li_6, li_7, li_8, li_9, li_10, li_11, li_12, li_13, li_14, li_15, li_16, li_17, li_18, li_19, li_20, li_21, li_22, li_23, li_24, li_25, li_26, li_27, li_28, li_29, li_30, li_31, li_32, li_34, li_35, li_40, li_41, li_45, li_48, li_49, li_50, li_57, li_58, li_59, li_60, li_61, li_64, li_65, li_97, li_99, li_100, li_115, li_116, li_121, li_122, li_200, li_255, li_256, li_300, li_999, li_1000, li_12345, li_65535, li_1103515245, if_true, if_false, nI_add, pk_mul, pk_sub, s_div, s_rem, s_cl, p_le_t, p_le_f, p_lt_t, p_lt_f, p_eq_t, p_eq_f, bd1_s, bd2_s, bd3_s, nm_s, gd_t, gd_in, gd_nz, gd_bz0, gd_bz1, gd_cp, c2]))
      · rw [f_X9_advances_b0, f_X9_advances_b0]
        (repeat (simp (disch := omega) only [li_0, li_1, li_2, li_3, li_4, li_5, li_6, li_7, li_8, li_9, li_10, li_11, li_12, li_13, li_14, li_15, li_16, li_17, li_18, li_19, li_20, li_21, li_22, li_23, li_24, li_25, li_26, li_27, li_28, li_29, li_30, li_31, li_32, li_34, li_35, li_40, li_41, li_45, li_48, li_49, li_50, li_57, li_58, li_59, li_60, li_61, li_64, li_65, li_97, li_99, li_100, li_115, li_116, li_121, li_122, li_200, li_255, li_256, li_300, li_999, li_1000, li_12345, li_65535, li_1103515245, if_true, if_false, nI_add, pk_mul, pk_sub, s_div, s_rem, s_cl, p_le_t, p_le_f, p_lt_t, p_lt_f, p_eq_t, p_eq_f, bd1_s, bd2_s, bd3_s, nm_s, gd_t, gd_in, gd_nz, gd_bz0, gd_bz1, gd_cp, e]))
theorem tk_num (hB : gB len b bytes text) (pl : Nat) (x1 : Int32) : ∀ (r q nn mm v : Nat), q + r = len → r < nn → r < mm → v ≤ 999 → ∃ nx v', q ≤ nx ∧ nx ≤ len ∧ v' ≤ 999 ∧ (q < len → dig (b q) = true → q < nx) ∧ f_X7_readNumber_b5 (nI len) (nI pl) bytes nn (nI (min v 100)) (nI q) = f_X7_readNumber_b73 (nI pl) bytes (nI (min v' 100)) (nI nx) ∧ f_X9_advances_b175 (nI len) text x1 (nI pl) mm (nI q) (nI v) = f_X9_advances_b175 (nI len) text x1 (nI pl) (0 + 1) (nI nx) (nI v') ∧ ∃ y : Int32, f_X9_byteAt (nI len) text (nI nx) = some y ∧ f_X9_in y (nI 48) (nI 57) = some (nI 0) := by
  have h1 := hB.1
  intro r
  induction r with
  | zero =>
    intro q nn mm v hq hnn hmm hv
    obtain ⟨m, rfl⟩ : ∃ m, nn = m + 1 := ⟨nn - 1, by omega⟩
    obtain ⟨k, rfl⟩ : ∃ m, mm = m + 1 := ⟨mm - 1, by omega⟩
    have hq2 : q = len := by omega
    subst hq2
    have e := bA_end hB
    refine ⟨q, v, Nat.le_refl q, Nat.le_refl q, hv, fun h => by omega, ?_, ?_, -nI 1, e, m_digE⟩
    · rw [f_X7_readNumber_b5]
      (repeat (simp (disch := omega) only [li_0, li_1, li_2, li_3, li_4, li_5, li_6, li_7, li_8, li_9, li_10, li_11, li_12, li_13, li_14, li_15, li_16, li_17, li_18, li_19, li_20, li_21, li_22, li_23, li_24, li_25, li_26, li_27, li_28, li_29, li_30, li_31, li_32, li_34, li_35, li_40, li_41, li_45, li_48, li_49, li_50, li_57, li_58, li_59, li_60, li_61, li_64, li_65, li_97, li_99, li_100, li_115, li_116, li_121, li_122, li_200, li_255, li_256, li_300, li_999, li_1000, li_12345, li_65535, li_1103515245, if_true, if_false, nI_add, pk_mul, pk_sub, s_div, s_rem, s_cl, p_le_t, p_le_f, p_lt_t, p_lt_f, p_eq_t, p_eq_f, bd1_s, bd2_s, bd3_s, nm_s, gd_t, gd_in, gd_nz, gd_bz0, gd_bz1, gd_cp]))
    · rw [f_X9_advances_b175, f_X9_advances_b175]
      (repeat (simp (disch := omega) only [li_0, li_1, li_2, li_3, li_4, li_5, li_6, li_7, li_8, li_9, li_10, li_11, li_12, li_13, li_14, li_15, li_16, li_17, li_18, li_19, li_20, li_21, li_22, li_23, li_24, li_25, li_26, li_27, li_28, li_29, li_30, li_31, li_32, li_34, li_35, li_40, li_41, li_45, li_48, li_49, li_50, li_57, li_58, li_59, li_60, li_61, li_64, li_65, li_97, li_99, li_100, li_115, li_116, li_121, li_122, li_200, li_255, li_256, li_300, li_999, li_1000, li_12345, li_65535, li_1103515245, if_true, if_false, nI_add, pk_mul, pk_sub, s_div, s_rem, s_cl, p_le_t, p_le_f, p_lt_t, p_lt_f, p_eq_t, p_eq_f, bd1_s, bd2_s, bd3_s, nm_s, gd_t, gd_in, gd_nz, gd_bz0, gd_bz1, gd_cp, e, m_digE]))
  | succ r ih =>
    intro q nn mm v hq hnn hmm hv
    obtain ⟨m, rfl⟩ : ∃ m, nn = m + 1 := ⟨nn - 1, by omega⟩
    obtain ⟨k, rfl⟩ : ∃ m, mm = m + 1 := ⟨mm - 1, by omega⟩
    obtain ⟨c1, c2, c3⟩ := hB.2 q (by omega)
    have e := bA_in hB (show q < len by omega)
    have ed := m_dig c1
    have ex := x_dig c1
    cases hd : dig (b q) with
    | false =>
      rw [hd, bI_f] at ed ex
      refine ⟨q, v, Nat.le_refl q, by omega, hv, fun _ h => (by cases h), ?_, ?_, nI (b q), e, ed⟩
      · rw [f_X7_readNumber_b5]
        (repeat (simp (disch := omega) only [li_0, li_1, li_2, li_3, li_4, li_5, li_6, li_7, li_8, li_9, li_10, li_11, li_12, li_13, li_14, li_15, li_16, li_17, li_18, li_19, li_20, li_21, li_22, li_23, li_24, li_25, li_26, li_27, li_28, li_29, li_30, li_31, li_32, li_34, li_35, li_40, li_41, li_45, li_48, li_49, li_50, li_57, li_58, li_59, li_60, li_61, li_64, li_65, li_97, li_99, li_100, li_115, li_116, li_121, li_122, li_200, li_255, li_256, li_300, li_999, li_1000, li_12345, li_65535, li_1103515245, if_true, if_false, nI_add, pk_mul, pk_sub, s_div, s_rem, s_cl, p_le_t, p_le_f, p_lt_t, p_lt_f, p_eq_t, p_eq_f, bd1_s, bd2_s, bd3_s, nm_s, gd_t, gd_in, gd_nz, gd_bz0, gd_bz1, gd_cp, c2, ex]))
      · rw [f_X9_advances_b175, f_X9_advances_b175]
        (repeat (simp (disch := omega) only [li_0, li_1, li_2, li_3, li_4, li_5, li_6, li_7, li_8, li_9, li_10, li_11, li_12, li_13, li_14, li_15, li_16, li_17, li_18, li_19, li_20, li_21, li_22, li_23, li_24, li_25, li_26, li_27, li_28, li_29, li_30, li_31, li_32, li_34, li_35, li_40, li_41, li_45, li_48, li_49, li_50, li_57, li_58, li_59, li_60, li_61, li_64, li_65, li_97, li_99, li_100, li_115, li_116, li_121, li_122, li_200, li_255, li_256, li_300, li_999, li_1000, li_12345, li_65535, li_1103515245, if_true, if_false, nI_add, pk_mul, pk_sub, s_div, s_rem, s_cl, p_le_t, p_le_f, p_lt_t, p_lt_f, p_eq_t, p_eq_f, bd1_s, bd2_s, bd3_s, nm_s, gd_t, gd_in, gd_nz, gd_bz0, gd_bz1, gd_cp, e, ed]))
    | true =>
      rw [hd, bI_t] at ed ex
      obtain ⟨d1, d2⟩ := dig_t.mp hd
      by_cases hv9 : v ≤ 99
      · obtain ⟨nx, v', p1, p2, p3, p4, p5, p6, p7⟩ := ih (q + 1) m k (10 * v + b q - 48) (by omega) (by omega) (by omega) (by omega)
        refine ⟨nx, v', by omega, p2, p3, fun _ _ => by omega, ?_, ?_, p7⟩
        · rw [f_X7_readNumber_b5, ← p5, show min v 100 = v by omega]
          by_cases hc : 100 < v * 10 + b q - 48
          · rw [show min (10 * v + b q - 48) 100 = 100 by omega]
            (repeat (simp (disch := omega) only [li_0, li_1, li_2, li_3, li_4, li_5, li_6, li_7, li_8, li_9, li_10, li_11, li_12, li_13, li_14, li_15, li_16, li_17, li_18, li_19, li_20, li_21, li_22, li_23, li_24, li_25, li_26, li_27, li_28, li_29, li_30, li_31, li_32, li_34, li_35, li_40, li_41, li_45, li_48, li_49, li_50, li_57, li_58, li_59, li_60, li_61, li_64, li_65, li_97, li_99, li_100, li_115, li_116, li_121, li_122, li_200, li_255, li_256, li_300, li_999, li_1000, li_12345, li_65535, li_1103515245, if_true, if_false, nI_add, pk_mul, pk_sub, s_div, s_rem, s_cl, p_le_t, p_le_f, p_lt_t, p_lt_f, p_eq_t, p_eq_f, bd1_s, bd2_s, bd3_s, nm_s, gd_t, gd_in, gd_nz, gd_bz0, gd_bz1, gd_cp, c2, ex]))
          · rw [show min (10 * v + b q - 48) 100 = v * 10 + b q - 48 by omega]
            (repeat (simp (disch := omega) only [li_0, li_1, li_2, li_3, li_4, li_5, li_6, li_7, li_8, li_9, li_10, li_11, li_12, li_13, li_14, li_15, li_16, li_17, li_18, li_19, li_20, li_21, li_22, li_23, li_24, li_25, li_26, li_27, li_28, li_29, li_30, li_31, li_32, li_34, li_35, li_40, li_41, li_45, li_48, li_49, li_50, li_57, li_58, li_59, li_60, li_61, li_64, li_65, li_97, li_99, li_100, li_115, li_116, li_121, li_122, li_200, li_255, li_256, li_300, li_999, li_1000, li_12345, li_65535, li_1103515245, if_true, if_false, nI_add, pk_mul, pk_sub, s_div, s_rem, s_cl, p_le_t, p_le_f, p_lt_t, p_lt_f, p_eq_t, p_eq_f, bd1_s, bd2_s, bd3_s, nm_s, gd_t, gd_in, gd_nz, gd_bz0, gd_bz1, gd_cp, c2, ex]))
        · rw [f_X9_advances_b175, ← p6]
          unfold f_X9_advances_b229
          (repeat (simp (disch := omega) only [li_0, li_1, li_2, li_3, li_4, li_5, li_6, li_7, li_8, li_9, li_10, li_11, li_12, li_13, li_14, li_15, li_16, li_17, li_18, li_19, li_20, li_21, li_22, li_23, li_24, li_25, li_26, li_27, li_28, li_29, li_30, li_31, li_32, li_34, li_35, li_40, li_41, li_45, li_48, li_49, li_50, li_57, li_58, li_59, li_60, li_61, li_64, li_65, li_97, li_99, li_100, li_115, li_116, li_121, li_122, li_200, li_255, li_256, li_300, li_999, li_1000, li_12345, li_65535, li_1103515245, if_true, if_false, nI_add, pk_mul, pk_sub, s_div, s_rem, s_cl, p_le_t, p_le_f, p_lt_t, p_lt_f, p_eq_t, p_eq_f, bd1_s, bd2_s, bd3_s, nm_s, gd_t, gd_in, gd_nz, gd_bz0, gd_bz1, gd_cp, e, ed]))
      · obtain ⟨nx, v', p1, p2, p3, p4, p5, p6, p7⟩ := ih (q + 1) m k v (by omega) (by omega) (by omega) hv
        refine ⟨nx, v', by omega, p2, p3, fun _ _ => by omega, ?_, ?_, p7⟩
        · rw [f_X7_readNumber_b5, ← p5, show min v 100 = 100 by omega]
          (repeat (simp (disch := omega) only [li_0, li_1, li_2, li_3, li_4, li_5, li_6, li_7, li_8, li_9, li_10, li_11, li_12, li_13, li_14, li_15, li_16, li_17, li_18, li_19, li_20, li_21, li_22, li_23, li_24, li_25, li_26, li_27, li_28, li_29, li_30, li_31, li_32, li_34, li_35, li_40, li_41, li_45, li_48, li_49, li_50, li_57, li_58, li_59, li_60, li_61, li_64, li_65, li_97, li_99, li_100, li_115, li_116, li_121, li_122, li_200, li_255, li_256, li_300, li_999, li_1000, li_12345, li_65535, li_1103515245, if_true, if_false, nI_add, pk_mul, pk_sub, s_div, s_rem, s_cl, p_le_t, p_le_f, p_lt_t, p_lt_f, p_eq_t, p_eq_f, bd1_s, bd2_s, bd3_s, nm_s, gd_t, gd_in, gd_nz, gd_bz0, gd_bz1, gd_cp, c2, ex]))
        · rw [f_X9_advances_b175, ← p6]
          unfold f_X9_advances_b229
          (repeat (simp (disch := omega) only [li_0, li_1, li_2, li_3, li_4, li_5, li_6, li_7, li_8, li_9, li_10, li_11, li_12, li_13, li_14, li_15, li_16, li_17, li_18, li_19, li_20, li_21, li_22, li_23, li_24, li_25, li_26, li_27, li_28, li_29, li_30, li_31, li_32, li_34, li_35, li_40, li_41, li_45, li_48, li_49, li_50, li_57, li_58, li_59, li_60, li_61, li_64, li_65, li_97, li_99, li_100, li_115, li_116, li_121, li_122, li_200, li_255, li_256, li_300, li_999, li_1000, li_12345, li_65535, li_1103515245, if_true, if_false, nI_add, pk_mul, pk_sub, s_div, s_rem, s_cl, p_le_t, p_le_f, p_lt_t, p_lt_f, p_eq_t, p_eq_f, bd1_s, bd2_s, bd3_s, nm_s, gd_t, gd_in, gd_nz, gd_bz0, gd_bz1, gd_cp, e, ed]))
def hsh (b : Nat → Nat) (p : Nat) : Nat → Nat
  | 0 => 0
  | k + 1 => 256 * hsh b p k + b (p + k)
theorem m_add {h c : Nat} (h0 : 0 < c) (hc : c < 256) : f_X9_add (lN h) (nI c) = some (lN (256 * h + c)) := by
  have e : (256 : Int64) = lN 256 := rfl
  unfold f_X9_add
  rw [e, lN_mul, nI_l (by omega), lN_add]
  (repeat (simp (disch := omega) only [li_0, li_1, li_2, li_3, li_4, li_5, li_6, li_7, li_8, li_9, li_10, li_11, li_12, li_13, li_14, li_15, li_16, li_17, li_18, li_19, li_20, li_21, li_22, li_23, li_24, li_25, li_26, li_27, li_28, li_29, li_30, li_31, li_32, li_34, li_35, li_40, li_41, li_45, li_48, li_49, li_50, li_57, li_58, li_59, li_60, li_61, li_64, li_65, li_97, li_99, li_100, li_115, li_116, li_121, li_122, li_200, li_255, li_256, li_300, li_999, li_1000, li_12345, li_65535, li_1103515245, if_true, if_false, nI_add, pk_mul, pk_sub, s_div, s_rem, s_cl, p_le_t, p_le_f, p_lt_t, p_lt_f, p_eq_t, p_eq_f, bd1_s, bd2_s, bd3_s, nm_s, gd_t, gd_in, gd_nz, gd_bz0, gd_bz1, gd_cp]))
theorem tk_word (hB : gB len b bytes text) (pl : Nat) : ∀ (r k nn mm : Nat), pl + k + r = len → r < nn → r < mm → ∃ L, k ≤ L ∧ pl + L ≤ len ∧ (0 < r → lett (b (pl + k)) = true → k < L) ∧ (∀ i, k ≤ i → i < L → lett (b (pl + i)) = true) ∧ f_X7_readWord_b0 (nI len) (nI pl) bytes nn (nI (pl + k)) = f_X7_readWord_b39 (nI pl) bytes (nI (pl + L)) ∧ f_X9_advances_b68 (nI len) text (nI pl) mm (lN (hsh b pl (min k 7))) (nI (pl + k)) = f_X9_advances_b68 (nI len) text (nI pl) (0 + 1) (lN (hsh b pl (min L 7))) (nI (pl + L)) ∧ ∃ y : Int32, f_X9_byteAt (nI len) text (nI (pl + L)) = some y ∧ f_X9_in y (nI 97) (nI 122) = some (nI 0) := by
  have h1 := hB.1
  intro r
  induction r with
  | zero =>
    intro k nn mm hq hnn hmm
    obtain ⟨m, rfl⟩ : ∃ m, nn = m + 1 := ⟨nn - 1, by omega⟩
    obtain ⟨j, rfl⟩ : ∃ m, mm = m + 1 := ⟨mm - 1, by omega⟩
    have e := bA_end hB
    have hq2 : len = pl + k := by omega
    rw [hq2] at e ⊢
    refine ⟨k, Nat.le_refl k, Nat.le_refl _, fun h => by omega, fun i a1 a2 => by omega, ?_, ?_, -nI 1, e, m_letE⟩
    · rw [f_X7_readWord_b0]
      (repeat (simp (disch := omega) only [li_0, li_1, li_2, li_3, li_4, li_5, li_6, li_7, li_8, li_9, li_10, li_11, li_12, li_13, li_14, li_15, li_16, li_17, li_18, li_19, li_20, li_21, li_22, li_23, li_24, li_25, li_26, li_27, li_28, li_29, li_30, li_31, li_32, li_34, li_35, li_40, li_41, li_45, li_48, li_49, li_50, li_57, li_58, li_59, li_60, li_61, li_64, li_65, li_97, li_99, li_100, li_115, li_116, li_121, li_122, li_200, li_255, li_256, li_300, li_999, li_1000, li_12345, li_65535, li_1103515245, if_true, if_false, nI_add, pk_mul, pk_sub, s_div, s_rem, s_cl, p_le_t, p_le_f, p_lt_t, p_lt_f, p_eq_t, p_eq_f, bd1_s, bd2_s, bd3_s, nm_s, gd_t, gd_in, gd_nz, gd_bz0, gd_bz1, gd_cp]))
    · rw [f_X9_advances_b68, f_X9_advances_b68]
      (repeat (simp (disch := omega) only [li_0, li_1, li_2, li_3, li_4, li_5, li_6, li_7, li_8, li_9, li_10, li_11, li_12, li_13, li_14, li_15, li_16, li_17, li_18, li_19, li_20, li_21, li_22, li_23, li_24, li_25, li_26, li_27, li_28, li_29, li_30, li_31, li_32, li_34, li_35, li_40, li_41, li_45, li_48, li_49, li_50, li_57, li_58, li_59, li_60, li_61, li_64, li_65, li_97, li_99, li_100, li_115, li_116, li_121, li_122, li_200, li_255, li_256, li_300, li_999, li_1000, li_12345, li_65535, li_1103515245, if_true, if_false, nI_add, pk_mul, pk_sub, s_div, s_rem, s_cl, p_le_t, p_le_f, p_lt_t, p_lt_f, p_eq_t, p_eq_f, bd1_s, bd2_s, bd3_s, nm_s, gd_t, gd_in, gd_nz, gd_bz0, gd_bz1, gd_cp, e, m_letE]))
  | succ r ih =>
    intro k nn mm hq hnn hmm
    obtain ⟨m, rfl⟩ : ∃ m, nn = m + 1 := ⟨nn - 1, by omega⟩
    obtain ⟨j, rfl⟩ : ∃ m, mm = m + 1 := ⟨mm - 1, by omega⟩
    obtain ⟨c1, c2, c3⟩ := hB.2 (pl + k) (by omega)
    have e := bA_in hB (show pl + k < len by omega)
    have ed := m_let c1
    have ex := x_let c1
    cases hd : lett (b (pl + k)) with
    | false =>
      rw [hd, bI_f] at ed ex
      refine ⟨k, Nat.le_refl k, by omega, fun _ h => (by cases h), fun i a1 a2 => by omega, ?_, ?_, nI (b (pl + k)), e, ed⟩
      · rw [f_X7_readWord_b0]
        (repeat (simp (disch := omega) only [li_0, li_1, li_2, li_3, li_4, li_5, li_6, li_7, li_8, li_9, li_10, li_11, li_12, li_13, li_14, li_15, li_16, li_17, li_18, li_19, li_20, li_21, li_22, li_23, li_24, li_25, li_26, li_27, li_28, li_29, li_30, li_31, li_32, li_34, li_35, li_40, li_41, li_45, li_48, li_49, li_50, li_57, li_58, li_59, li_60, li_61, li_64, li_65, li_97, li_99, li_100, li_115, li_116, li_121, li_122, li_200, li_255, li_256, li_300, li_999, li_1000, li_12345, li_65535, li_1103515245, if_true, if_false, nI_add, pk_mul, pk_sub, s_div, s_rem, s_cl, p_le_t, p_le_f, p_lt_t, p_lt_f, p_eq_t, p_eq_f, bd1_s, bd2_s, bd3_s, nm_s, gd_t, gd_in, gd_nz, gd_bz0, gd_bz1, gd_cp, c2, ex]))
      · rw [f_X9_advances_b68, f_X9_advances_b68]
        (repeat (simp (disch := omega) only [li_0, li_1, li_2, li_3, li_4, li_5, li_6, li_7, li_8, li_9, li_10, li_11, li_12, li_13, li_14, li_15, li_16, li_17, li_18, li_19, li_20, li_21, li_22, li_23, li_24, li_25, li_26, li_27, li_28, li_29, li_30, li_31, li_32, li_34, li_35, li_40, li_41, li_45, li_48, li_49, li_50, li_57, li_58, li_59, li_60, li_61, li_64, li_65, li_97, li_99, li_100, li_115, li_116, li_121, li_122, li_200, li_255, li_256, li_300, li_999, li_1000, li_12345, li_65535, li_1103515245, if_true, if_false, nI_add, pk_mul, pk_sub, s_div, s_rem, s_cl, p_le_t, p_le_f, p_lt_t, p_lt_f, p_eq_t, p_eq_f, bd1_s, bd2_s, bd3_s, nm_s, gd_t, gd_in, gd_nz, gd_bz0, gd_bz1, gd_cp, e, ed]))
    | true =>
      rw [hd, bI_t] at ed ex
      obtain ⟨d1, d2⟩ := lett_t.mp hd
      obtain ⟨L, p1, p2, p3, p4, p5, p6, p7⟩ := ih (k + 1) m j (by omega) (by omega) (by omega)
      refine ⟨L, by omega, p2, fun _ _ => by omega, fun i a1 a2 => ?_, ?_, ?_, p7⟩
      · by_cases hi : i = k
        · subst hi; exact hd
        · exact p4 i (by omega) a2
      · rw [f_X7_readWord_b0, ← p5]
        (repeat (simp (disch := omega) only [li_0, li_1, li_2, li_3, li_4, li_5, li_6, li_7, li_8, li_9, li_10, li_11, li_12, li_13, li_14, li_15, li_16, li_17, li_18, li_19, li_20, li_21, li_22, li_23, li_24, li_25, li_26, li_27, li_28, li_29, li_30, li_31, li_32, li_34, li_35, li_40, li_41, li_45, li_48, li_49, li_50, li_57, li_58, li_59, li_60, li_61, li_64, li_65, li_97, li_99, li_100, li_115, li_116, li_121, li_122, li_200, li_255, li_256, li_300, li_999, li_1000, li_12345, li_65535, li_1103515245, if_true, if_false, nI_add, pk_mul, pk_sub, s_div, s_rem, s_cl, p_le_t, p_le_f, p_lt_t, p_lt_f, p_eq_t, p_eq_f, bd1_s, bd2_s, bd3_s, nm_s, gd_t, gd_in, gd_nz, gd_bz0, gd_bz1, gd_cp, c2, ex, Nat.add_assoc]))
      · have ek : nI (pl + k) - nI pl = nI k := by rw [pk_sub (by omega), show pl + k - pl = k by omega]
        rw [f_X9_advances_b68, ← p6]
        unfold f_X9_advances_b116
        by_cases h7 : 7 ≤ k
        · rw [show min k 7 = 7 by omega, show min (k + 1) 7 = 7 by omega]
          (repeat (simp (disch := omega) only [li_0, li_1, li_2, li_3, li_4, li_5, li_6, li_7, li_8, li_9, li_10, li_11, li_12, li_13, li_14, li_15, li_16, li_17, li_18, li_19, li_20, li_21, li_22, li_23, li_24, li_25, li_26, li_27, li_28, li_29, li_30, li_31, li_32, li_34, li_35, li_40, li_41, li_45, li_48, li_49, li_50, li_57, li_58, li_59, li_60, li_61, li_64, li_65, li_97, li_99, li_100, li_115, li_116, li_121, li_122, li_200, li_255, li_256, li_300, li_999, li_1000, li_12345, li_65535, li_1103515245, if_true, if_false, nI_add, pk_mul, pk_sub, s_div, s_rem, s_cl, p_le_t, p_le_f, p_lt_t, p_lt_f, p_eq_t, p_eq_f, bd1_s, bd2_s, bd3_s, nm_s, gd_t, gd_in, gd_nz, gd_bz0, gd_bz1, gd_cp, e, ed, ek, Nat.add_assoc]))
        · have ea := m_add (h := hsh b pl k) (show 0 < b (pl + k) by omega) c1
          rw [show min k 7 = k by omega, show min (k + 1) 7 = k + 1 by omega, hsh]
          (repeat (simp (disch := omega) only [li_0, li_1, li_2, li_3, li_4, li_5, li_6, li_7, li_8, li_9, li_10, li_11, li_12, li_13, li_14, li_15, li_16, li_17, li_18, li_19, li_20, li_21, li_22, li_23, li_24, li_25, li_26, li_27, li_28, li_29, li_30, li_31, li_32, li_34, li_35, li_40, li_41, li_45, li_48, li_49, li_50, li_57, li_58, li_59, li_60, li_61, li_64, li_65, li_97, li_99, li_100, li_115, li_116, li_121, li_122, li_200, li_255, li_256, li_300, li_999, li_1000, li_12345, li_65535, li_1103515245, if_true, if_false, nI_add, pk_mul, pk_sub, s_div, s_rem, s_cl, p_le_t, p_le_f, p_lt_t, p_lt_f, p_eq_t, p_eq_f, bd1_s, bd2_s, bd3_s, nm_s, gd_t, gd_in, gd_nz, gd_bz0, gd_bz1, gd_cp, e, ed, ek, ea, Nat.add_assoc]))

theorem zch0 : ∀ i, i < 3 → zch 0 (nI i) = nI ([115, 107, 121].getD i 0) := by decide +kernel
theorem iwl0 (hB : gB len b bytes text) {pl : Nat} (hp : pl + 3 ≤ len) : ∀ (r i nn : Nat), i + r = 3 → r < nn → ∃ c : Bool, f_X7_isWord_s0_b20 (nI pl) bytes nn (nI i) = some (bI c) ∧ (c = true ↔ ∀ i', i ≤ i' → i' < 3 → b (pl + i') = [115, 107, 121].getD i' 0) := by
  have h1 := hB.1
  intro r
  induction r with
  | zero =>
    intro i nn hi hnn
    obtain ⟨m, rfl⟩ : ∃ m, nn = m + 1 := ⟨nn - 1, by omega⟩
    refine ⟨true, ?_, ⟨fun _ i' a1 a2 => by omega, fun _ => rfl⟩⟩
    rw [f_X7_isWord_s0_b20]
    (repeat (simp (disch := omega) only [li_0, li_1, li_2, li_3, li_4, li_5, li_6, li_7, li_8, li_9, li_10, li_11, li_12, li_13, li_14, li_15, li_16, li_17, li_18, li_19, li_20, li_21, li_22, li_23, li_24, li_25, li_26, li_27, li_28, li_29, li_30, li_31, li_32, li_34, li_35, li_40, li_41, li_45, li_48, li_49, li_50, li_57, li_58, li_59, li_60, li_61, li_64, li_65, li_97, li_99, li_100, li_115, li_116, li_121, li_122, li_200, li_255, li_256, li_300, li_999, li_1000, li_12345, li_65535, li_1103515245, if_true, if_false, nI_add, pk_mul, pk_sub, s_div, s_rem, s_cl, p_le_t, p_le_f, p_lt_t, p_lt_f, p_eq_t, p_eq_f, bd1_s, bd2_s, bd3_s, nm_s, gd_t, gd_in, gd_nz, gd_bz0, gd_bz1, gd_cp, bI_t]))
  | succ r ih =>
    intro i nn hi hnn
    obtain ⟨m, rfl⟩ : ∃ m, nn = m + 1 := ⟨nn - 1, by omega⟩
    obtain ⟨c1, c2, c3⟩ := hB.2 (pl + i) (by omega)
    have ez := zch0 i (by omega)
    have hz : [115, 107, 121].getD i 0 < 256 := by
      have : ∀ i, i < 3 → [115, 107, 121].getD i 0 < 256 := by decide
      exact this i (by omega)
    obtain ⟨c, k1, k2⟩ := ih (i + 1) m (by omega) (by omega)
    rw [f_X7_isWord_s0_b20]
    generalize hg : [115, 107, 121].getD i 0 = z at *
    by_cases hc : b (pl + i) = z
    · refine ⟨c, by (repeat (simp (disch := omega) only [li_0, li_1, li_2, li_3, li_4, li_5, li_6, li_7, li_8, li_9, li_10, li_11, li_12, li_13, li_14, li_15, li_16, li_17, li_18, li_19, li_20, li_21, li_22, li_23, li_24, li_25, li_26, li_27, li_28, li_29, li_30, li_31, li_32, li_34, li_35, li_40, li_41, li_45, li_48, li_49, li_50, li_57, li_58, li_59, li_60, li_61, li_64, li_65, li_97, li_99, li_100, li_115, li_116, li_121, li_122, li_200, li_255, li_256, li_300, li_999, li_1000, li_12345, li_65535, li_1103515245, if_true, if_false, nI_add, pk_mul, pk_sub, s_div, s_rem, s_cl, p_le_t, p_le_f, p_lt_t, p_lt_f, p_eq_t, p_eq_f, bd1_s, bd2_s, bd3_s, nm_s, gd_t, gd_in, gd_nz, gd_bz0, gd_bz1, gd_cp, c2, ez, hc, k1])), ?_⟩
      rw [k2]
      constructor
      · intro h i' a1 a2
        by_cases e : i' = i
        · subst e; rw [hc, hg]
        · exact h i' (by omega) a2
      · intro h i' a1 a2
        exact h i' (by omega) a2
    · refine ⟨false, by (repeat (simp (disch := omega) only [li_0, li_1, li_2, li_3, li_4, li_5, li_6, li_7, li_8, li_9, li_10, li_11, li_12, li_13, li_14, li_15, li_16, li_17, li_18, li_19, li_20, li_21, li_22, li_23, li_24, li_25, li_26, li_27, li_28, li_29, li_30, li_31, li_32, li_34, li_35, li_40, li_41, li_45, li_48, li_49, li_50, li_57, li_58, li_59, li_60, li_61, li_64, li_65, li_97, li_99, li_100, li_115, li_116, li_121, li_122, li_200, li_255, li_256, li_300, li_999, li_1000, li_12345, li_65535, li_1103515245, if_true, if_false, nI_add, pk_mul, pk_sub, s_div, s_rem, s_cl, p_le_t, p_le_f, p_lt_t, p_lt_f, p_eq_t, p_eq_f, bd1_s, bd2_s, bd3_s, nm_s, gd_t, gd_in, gd_nz, gd_bz0, gd_bz1, gd_cp, c2, ez, bI_f])), ⟨fun h => (by cases h), fun h => ?_⟩⟩
      exact absurd ((h i (Nat.le_refl i) (by omega)).trans hg) hc
theorem iw0 (hB : gB len b bytes text) {pl L : Nat} (hp : pl + L ≤ len) : ∃ c : Bool, f_X7_isWord_s0 (nI pl) (nI (pl + L)) bytes = some (bI c) ∧ (c = true ↔ L = 3 ∧ b (pl + 0) = 115 ∧ b (pl + 1) = 107 ∧ b (pl + 2) = 121) := by
  have h1 := hB.1
  have ek : nI (pl + L) - nI pl = nI L := by rw [pk_sub (by omega), show pl + L - pl = L by omega]
  unfold f_X7_isWord_s0
  by_cases hL : L = 3
  · subst hL
    obtain ⟨c, k1, k2⟩ := iwl0 hB hp 3 0 zF (by omega) (by unfold zF; omega)
    refine ⟨c, by (repeat (simp (disch := omega) only [li_0, li_1, li_2, li_3, li_4, li_5, li_6, li_7, li_8, li_9, li_10, li_11, li_12, li_13, li_14, li_15, li_16, li_17, li_18, li_19, li_20, li_21, li_22, li_23, li_24, li_25, li_26, li_27, li_28, li_29, li_30, li_31, li_32, li_34, li_35, li_40, li_41, li_45, li_48, li_49, li_50, li_57, li_58, li_59, li_60, li_61, li_64, li_65, li_97, li_99, li_100, li_115, li_116, li_121, li_122, li_200, li_255, li_256, li_300, li_999, li_1000, li_12345, li_65535, li_1103515245, if_true, if_false, nI_add, pk_mul, pk_sub, s_div, s_rem, s_cl, p_le_t, p_le_f, p_lt_t, p_lt_f, p_eq_t, p_eq_f, bd1_s, bd2_s, bd3_s, nm_s, gd_t, gd_in, gd_nz, gd_bz0, gd_bz1, gd_cp, ek, k1])), ?_⟩
    rw [k2]
    constructor
    · intro h
      exact ⟨rfl, h 0 (by omega) (by omega), h 1 (by omega) (by omega), h 2 (by omega) (by omega)⟩
    · rintro ⟨-, q0, q1, q2⟩ i' - a2
      rcases (show i' = 0 ∨ i' = 1 ∨ i' = 2 by omega) with rfl | rfl | rfl
      · exact q0
      · exact q1
      · exact q2
  · exact ⟨false, by (repeat (simp (disch := omega) only [li_0, li_1, li_2, li_3, li_4, li_5, li_6, li_7, li_8, li_9, li_10, li_11, li_12, li_13, li_14, li_15, li_16, li_17, li_18, li_19, li_20, li_21, li_22, li_23, li_24, li_25, li_26, li_27, li_28, li_29, li_30, li_31, li_32, li_34, li_35, li_40, li_41, li_45, li_48, li_49, li_50, li_57, li_58, li_59, li_60, li_61, li_64, li_65, li_97, li_99, li_100, li_115, li_116, li_121, li_122, li_200, li_255, li_256, li_300, li_999, li_1000, li_12345, li_65535, li_1103515245, if_true, if_false, nI_add, pk_mul, pk_sub, s_div, s_rem, s_cl, p_le_t, p_le_f, p_lt_t, p_lt_f, p_eq_t, p_eq_f, bd1_s, bd2_s, bd3_s, nm_s, gd_t, gd_in, gd_nz, gd_bz0, gd_bz1, gd_cp, ek, bI_f])), ⟨fun h => (by cases h), fun h => absurd h.1 hL⟩⟩
theorem zch1 : ∀ i, i < 4 → zch 1 (nI i) = nI ([115, 116, 97, 114].getD i 0) := by decide +kernel
theorem iwl1 (hB : gB len b bytes text) {pl : Nat} (hp : pl + 4 ≤ len) : ∀ (r i nn : Nat), i + r = 4 → r < nn → ∃ c : Bool, f_X7_isWord_s1_b20 (nI pl) bytes nn (nI i) = some (bI c) ∧ (c = true ↔ ∀ i', i ≤ i' → i' < 4 → b (pl + i') = [115, 116, 97, 114].getD i' 0) := by
  have h1 := hB.1
  intro r
  induction r with
  | zero =>
    intro i nn hi hnn
    obtain ⟨m, rfl⟩ : ∃ m, nn = m + 1 := ⟨nn - 1, by omega⟩
    refine ⟨true, ?_, ⟨fun _ i' a1 a2 => by omega, fun _ => rfl⟩⟩
    rw [f_X7_isWord_s1_b20]
    (repeat (simp (disch := omega) only [li_0, li_1, li_2, li_3, li_4, li_5, li_6, li_7, li_8, li_9, li_10, li_11, li_12, li_13, li_14, li_15, li_16, li_17, li_18, li_19, li_20, li_21, li_22, li_23, li_24, li_25, li_26, li_27, li_28, li_29, li_30, li_31, li_32, li_34, li_35, li_40, li_41, li_45, li_48, li_49, li_50, li_57, li_58, li_59, li_60, li_61, li_64, li_65, li_97, li_99, li_100, li_115, li_116, li_121, li_122, li_200, li_255, li_256, li_300, li_999, li_1000, li_12345, li_65535, li_1103515245, if_true, if_false, nI_add, pk_mul, pk_sub, s_div, s_rem, s_cl, p_le_t, p_le_f, p_lt_t, p_lt_f, p_eq_t, p_eq_f, bd1_s, bd2_s, bd3_s, nm_s, gd_t, gd_in, gd_nz, gd_bz0, gd_bz1, gd_cp, bI_t]))
  | succ r ih =>
    intro i nn hi hnn
    obtain ⟨m, rfl⟩ : ∃ m, nn = m + 1 := ⟨nn - 1, by omega⟩
    obtain ⟨c1, c2, c3⟩ := hB.2 (pl + i) (by omega)
    have ez := zch1 i (by omega)
    have hz : [115, 116, 97, 114].getD i 0 < 256 := by
      have : ∀ i, i < 4 → [115, 116, 97, 114].getD i 0 < 256 := by decide
      exact this i (by omega)
    obtain ⟨c, k1, k2⟩ := ih (i + 1) m (by omega) (by omega)
    rw [f_X7_isWord_s1_b20]
    generalize hg : [115, 116, 97, 114].getD i 0 = z at *
    by_cases hc : b (pl + i) = z
    · refine ⟨c, by (repeat (simp (disch := omega) only [li_0, li_1, li_2, li_3, li_4, li_5, li_6, li_7, li_8, li_9, li_10, li_11, li_12, li_13, li_14, li_15, li_16, li_17, li_18, li_19, li_20, li_21, li_22, li_23, li_24, li_25, li_26, li_27, li_28, li_29, li_30, li_31, li_32, li_34, li_35, li_40, li_41, li_45, li_48, li_49, li_50, li_57, li_58, li_59, li_60, li_61, li_64, li_65, li_97, li_99, li_100, li_115, li_116, li_121, li_122, li_200, li_255, li_256, li_300, li_999, li_1000, li_12345, li_65535, li_1103515245, if_true, if_false, nI_add, pk_mul, pk_sub, s_div, s_rem, s_cl, p_le_t, p_le_f, p_lt_t, p_lt_f, p_eq_t, p_eq_f, bd1_s, bd2_s, bd3_s, nm_s, gd_t, gd_in, gd_nz, gd_bz0, gd_bz1, gd_cp, c2, ez, hc, k1])), ?_⟩
      rw [k2]
      constructor
      · intro h i' a1 a2
        by_cases e : i' = i
        · subst e; rw [hc, hg]
        · exact h i' (by omega) a2
      · intro h i' a1 a2
        exact h i' (by omega) a2
    · refine ⟨false, by (repeat (simp (disch := omega) only [li_0, li_1, li_2, li_3, li_4, li_5, li_6, li_7, li_8, li_9, li_10, li_11, li_12, li_13, li_14, li_15, li_16, li_17, li_18, li_19, li_20, li_21, li_22, li_23, li_24, li_25, li_26, li_27, li_28, li_29, li_30, li_31, li_32, li_34, li_35, li_40, li_41, li_45, li_48, li_49, li_50, li_57, li_58, li_59, li_60, li_61, li_64, li_65, li_97, li_99, li_100, li_115, li_116, li_121, li_122, li_200, li_255, li_256, li_300, li_999, li_1000, li_12345, li_65535, li_1103515245, if_true, if_false, nI_add, pk_mul, pk_sub, s_div, s_rem, s_cl, p_le_t, p_le_f, p_lt_t, p_lt_f, p_eq_t, p_eq_f, bd1_s, bd2_s, bd3_s, nm_s, gd_t, gd_in, gd_nz, gd_bz0, gd_bz1, gd_cp, c2, ez, bI_f])), ⟨fun h => (by cases h), fun h => ?_⟩⟩
      exact absurd ((h i (Nat.le_refl i) (by omega)).trans hg) hc
theorem iw1 (hB : gB len b bytes text) {pl L : Nat} (hp : pl + L ≤ len) : ∃ c : Bool, f_X7_isWord_s1 (nI pl) (nI (pl + L)) bytes = some (bI c) ∧ (c = true ↔ L = 4 ∧ b (pl + 0) = 115 ∧ b (pl + 1) = 116 ∧ b (pl + 2) = 97 ∧ b (pl + 3) = 114) := by
  have h1 := hB.1
  have ek : nI (pl + L) - nI pl = nI L := by rw [pk_sub (by omega), show pl + L - pl = L by omega]
  unfold f_X7_isWord_s1
  by_cases hL : L = 4
  · subst hL
    obtain ⟨c, k1, k2⟩ := iwl1 hB hp 4 0 zF (by omega) (by unfold zF; omega)
    refine ⟨c, by (repeat (simp (disch := omega) only [li_0, li_1, li_2, li_3, li_4, li_5, li_6, li_7, li_8, li_9, li_10, li_11, li_12, li_13, li_14, li_15, li_16, li_17, li_18, li_19, li_20, li_21, li_22, li_23, li_24, li_25, li_26, li_27, li_28, li_29, li_30, li_31, li_32, li_34, li_35, li_40, li_41, li_45, li_48, li_49, li_50, li_57, li_58, li_59, li_60, li_61, li_64, li_65, li_97, li_99, li_100, li_115, li_116, li_121, li_122, li_200, li_255, li_256, li_300, li_999, li_1000, li_12345, li_65535, li_1103515245, if_true, if_false, nI_add, pk_mul, pk_sub, s_div, s_rem, s_cl, p_le_t, p_le_f, p_lt_t, p_lt_f, p_eq_t, p_eq_f, bd1_s, bd2_s, bd3_s, nm_s, gd_t, gd_in, gd_nz, gd_bz0, gd_bz1, gd_cp, ek, k1])), ?_⟩
    rw [k2]
    constructor
    · intro h
      exact ⟨rfl, h 0 (by omega) (by omega), h 1 (by omega) (by omega), h 2 (by omega) (by omega), h 3 (by omega) (by omega)⟩
    · rintro ⟨-, q0, q1, q2, q3⟩ i' - a2
      rcases (show i' = 0 ∨ i' = 1 ∨ i' = 2 ∨ i' = 3 by omega) with rfl | rfl | rfl | rfl
      · exact q0
      · exact q1
      · exact q2
      · exact q3
  · exact ⟨false, by (repeat (simp (disch := omega) only [li_0, li_1, li_2, li_3, li_4, li_5, li_6, li_7, li_8, li_9, li_10, li_11, li_12, li_13, li_14, li_15, li_16, li_17, li_18, li_19, li_20, li_21, li_22, li_23, li_24, li_25, li_26, li_27, li_28, li_29, li_30, li_31, li_32, li_34, li_35, li_40, li_41, li_45, li_48, li_49, li_50, li_57, li_58, li_59, li_60, li_61, li_64, li_65, li_97, li_99, li_100, li_115, li_116, li_121, li_122, li_200, li_255, li_256, li_300, li_999, li_1000, li_12345, li_65535, li_1103515245, if_true, if_false, nI_add, pk_mul, pk_sub, s_div, s_rem, s_cl, p_le_t, p_le_f, p_lt_t, p_lt_f, p_eq_t, p_eq_f, bd1_s, bd2_s, bd3_s, nm_s, gd_t, gd_in, gd_nz, gd_bz0, gd_bz1, gd_cp, ek, bI_f])), ⟨fun h => (by cases h), fun h => absurd h.1 hL⟩⟩
theorem zch2 : ∀ i, i < 6 → zch 2 (nI i) = nI ([116, 101, 110, 97, 110, 116].getD i 0) := by decide +kernel
theorem iwl2 (hB : gB len b bytes text) {pl : Nat} (hp : pl + 6 ≤ len) : ∀ (r i nn : Nat), i + r = 6 → r < nn → ∃ c : Bool, f_X7_isWord_s2_b20 (nI pl) bytes nn (nI i) = some (bI c) ∧ (c = true ↔ ∀ i', i ≤ i' → i' < 6 → b (pl + i') = [116, 101, 110, 97, 110, 116].getD i' 0) := by
  have h1 := hB.1
  intro r
  induction r with
  | zero =>
    intro i nn hi hnn
    obtain ⟨m, rfl⟩ : ∃ m, nn = m + 1 := ⟨nn - 1, by omega⟩
    refine ⟨true, ?_, ⟨fun _ i' a1 a2 => by omega, fun _ => rfl⟩⟩
    rw [f_X7_isWord_s2_b20]
    (repeat (simp (disch := omega) only [li_0, li_1, li_2, li_3, li_4, li_5, li_6, li_7, li_8, li_9, li_10, li_11, li_12, li_13, li_14, li_15, li_16, li_17, li_18, li_19, li_20, li_21, li_22, li_23, li_24, li_25, li_26, li_27, li_28, li_29, li_30, li_31, li_32, li_34, li_35, li_40, li_41, li_45, li_48, li_49, li_50, li_57, li_58, li_59, li_60, li_61, li_64, li_65, li_97, li_99, li_100, li_115, li_116, li_121, li_122, li_200, li_255, li_256, li_300, li_999, li_1000, li_12345, li_65535, li_1103515245, if_true, if_false, nI_add, pk_mul, pk_sub, s_div, s_rem, s_cl, p_le_t, p_le_f, p_lt_t, p_lt_f, p_eq_t, p_eq_f, bd1_s, bd2_s, bd3_s, nm_s, gd_t, gd_in, gd_nz, gd_bz0, gd_bz1, gd_cp, bI_t]))
  | succ r ih =>
    intro i nn hi hnn
    obtain ⟨m, rfl⟩ : ∃ m, nn = m + 1 := ⟨nn - 1, by omega⟩
    obtain ⟨c1, c2, c3⟩ := hB.2 (pl + i) (by omega)
    have ez := zch2 i (by omega)
    have hz : [116, 101, 110, 97, 110, 116].getD i 0 < 256 := by
      have : ∀ i, i < 6 → [116, 101, 110, 97, 110, 116].getD i 0 < 256 := by decide
      exact this i (by omega)
    obtain ⟨c, k1, k2⟩ := ih (i + 1) m (by omega) (by omega)
    rw [f_X7_isWord_s2_b20]
    generalize hg : [116, 101, 110, 97, 110, 116].getD i 0 = z at *
    by_cases hc : b (pl + i) = z
    · refine ⟨c, by (repeat (simp (disch := omega) only [li_0, li_1, li_2, li_3, li_4, li_5, li_6, li_7, li_8, li_9, li_10, li_11, li_12, li_13, li_14, li_15, li_16, li_17, li_18, li_19, li_20, li_21, li_22, li_23, li_24, li_25, li_26, li_27, li_28, li_29, li_30, li_31, li_32, li_34, li_35, li_40, li_41, li_45, li_48, li_49, li_50, li_57, li_58, li_59, li_60, li_61, li_64, li_65, li_97, li_99, li_100, li_115, li_116, li_121, li_122, li_200, li_255, li_256, li_300, li_999, li_1000, li_12345, li_65535, li_1103515245, if_true, if_false, nI_add, pk_mul, pk_sub, s_div, s_rem, s_cl, p_le_t, p_le_f, p_lt_t, p_lt_f, p_eq_t, p_eq_f, bd1_s, bd2_s, bd3_s, nm_s, gd_t, gd_in, gd_nz, gd_bz0, gd_bz1, gd_cp, c2, ez, hc, k1])), ?_⟩
      rw [k2]
      constructor
      · intro h i' a1 a2
        by_cases e : i' = i
        · subst e; rw [hc, hg]
        · exact h i' (by omega) a2
      · intro h i' a1 a2
        exact h i' (by omega) a2
    · refine ⟨false, by (repeat (simp (disch := omega) only [li_0, li_1, li_2, li_3, li_4, li_5, li_6, li_7, li_8, li_9, li_10, li_11, li_12, li_13, li_14, li_15, li_16, li_17, li_18, li_19, li_20, li_21, li_22, li_23, li_24, li_25, li_26, li_27, li_28, li_29, li_30, li_31, li_32, li_34, li_35, li_40, li_41, li_45, li_48, li_49, li_50, li_57, li_58, li_59, li_60, li_61, li_64, li_65, li_97, li_99, li_100, li_115, li_116, li_121, li_122, li_200, li_255, li_256, li_300, li_999, li_1000, li_12345, li_65535, li_1103515245, if_true, if_false, nI_add, pk_mul, pk_sub, s_div, s_rem, s_cl, p_le_t, p_le_f, p_lt_t, p_lt_f, p_eq_t, p_eq_f, bd1_s, bd2_s, bd3_s, nm_s, gd_t, gd_in, gd_nz, gd_bz0, gd_bz1, gd_cp, c2, ez, bI_f])), ⟨fun h => (by cases h), fun h => ?_⟩⟩
      exact absurd ((h i (Nat.le_refl i) (by omega)).trans hg) hc
theorem iw2 (hB : gB len b bytes text) {pl L : Nat} (hp : pl + L ≤ len) : ∃ c : Bool, f_X7_isWord_s2 (nI pl) (nI (pl + L)) bytes = some (bI c) ∧ (c = true ↔ L = 6 ∧ b (pl + 0) = 116 ∧ b (pl + 1) = 101 ∧ b (pl + 2) = 110 ∧ b (pl + 3) = 97 ∧ b (pl + 4) = 110 ∧ b (pl + 5) = 116) := by
  have h1 := hB.1
  have ek : nI (pl + L) - nI pl = nI L := by rw [pk_sub (by omega), show pl + L - pl = L by omega]
  unfold f_X7_isWord_s2
  by_cases hL : L = 6
  · subst hL
    obtain ⟨c, k1, k2⟩ := iwl2 hB hp 6 0 zF (by omega) (by unfold zF; omega)
    refine ⟨c, by (repeat (simp (disch := omega) only [li_0, li_1, li_2, li_3, li_4, li_5, li_6, li_7, li_8, li_9, li_10, li_11, li_12, li_13, li_14, li_15, li_16, li_17, li_18, li_19, li_20, li_21, li_22, li_23, li_24, li_25, li_26, li_27, li_28, li_29, li_30, li_31, li_32, li_34, li_35, li_40, li_41, li_45, li_48, li_49, li_50, li_57, li_58, li_59, li_60, li_61, li_64, li_65, li_97, li_99, li_100, li_115, li_116, li_121, li_122, li_200, li_255, li_256, li_300, li_999, li_1000, li_12345, li_65535, li_1103515245, if_true, if_false, nI_add, pk_mul, pk_sub, s_div, s_rem, s_cl, p_le_t, p_le_f, p_lt_t, p_lt_f, p_eq_t, p_eq_f, bd1_s, bd2_s, bd3_s, nm_s, gd_t, gd_in, gd_nz, gd_bz0, gd_bz1, gd_cp, ek, k1])), ?_⟩
    rw [k2]
    constructor
    · intro h
      exact ⟨rfl, h 0 (by omega) (by omega), h 1 (by omega) (by omega), h 2 (by omega) (by omega), h 3 (by omega) (by omega), h 4 (by omega) (by omega), h 5 (by omega) (by omega)⟩
    · rintro ⟨-, q0, q1, q2, q3, q4, q5⟩ i' - a2
      rcases (show i' = 0 ∨ i' = 1 ∨ i' = 2 ∨ i' = 3 ∨ i' = 4 ∨ i' = 5 by omega) with rfl | rfl | rfl | rfl | rfl | rfl
      · exact q0
      · exact q1
      · exact q2
      · exact q3
      · exact q4
      · exact q5
  · exact ⟨false, by (repeat (simp (disch := omega) only [li_0, li_1, li_2, li_3, li_4, li_5, li_6, li_7, li_8, li_9, li_10, li_11, li_12, li_13, li_14, li_15, li_16, li_17, li_18, li_19, li_20, li_21, li_22, li_23, li_24, li_25, li_26, li_27, li_28, li_29, li_30, li_31, li_32, li_34, li_35, li_40, li_41, li_45, li_48, li_49, li_50, li_57, li_58, li_59, li_60, li_61, li_64, li_65, li_97, li_99, li_100, li_115, li_116, li_121, li_122, li_200, li_255, li_256, li_300, li_999, li_1000, li_12345, li_65535, li_1103515245, if_true, if_false, nI_add, pk_mul, pk_sub, s_div, s_rem, s_cl, p_le_t, p_le_f, p_lt_t, p_lt_f, p_eq_t, p_eq_f, bd1_s, bd2_s, bd3_s, nm_s, gd_t, gd_in, gd_nz, gd_bz0, gd_bz1, gd_cp, ek, bI_f])), ⟨fun h => (by cases h), fun h => absurd h.1 hL⟩⟩
theorem zch3 : ∀ i, i < 5 → zch 3 (nI i) = nI ([108, 101, 97, 115, 101].getD i 0) := by decide +kernel
theorem iwl3 (hB : gB len b bytes text) {pl : Nat} (hp : pl + 5 ≤ len) : ∀ (r i nn : Nat), i + r = 5 → r < nn → ∃ c : Bool, f_X7_isWord_s3_b20 (nI pl) bytes nn (nI i) = some (bI c) ∧ (c = true ↔ ∀ i', i ≤ i' → i' < 5 → b (pl + i') = [108, 101, 97, 115, 101].getD i' 0) := by
  have h1 := hB.1
  intro r
  induction r with
  | zero =>
    intro i nn hi hnn
    obtain ⟨m, rfl⟩ : ∃ m, nn = m + 1 := ⟨nn - 1, by omega⟩
    refine ⟨true, ?_, ⟨fun _ i' a1 a2 => by omega, fun _ => rfl⟩⟩
    rw [f_X7_isWord_s3_b20]
    (repeat (simp (disch := omega) only [li_0, li_1, li_2, li_3, li_4, li_5, li_6, li_7, li_8, li_9, li_10, li_11, li_12, li_13, li_14, li_15, li_16, li_17, li_18, li_19, li_20, li_21, li_22, li_23, li_24, li_25, li_26, li_27, li_28, li_29, li_30, li_31, li_32, li_34, li_35, li_40, li_41, li_45, li_48, li_49, li_50, li_57, li_58, li_59, li_60, li_61, li_64, li_65, li_97, li_99, li_100, li_115, li_116, li_121, li_122, li_200, li_255, li_256, li_300, li_999, li_1000, li_12345, li_65535, li_1103515245, if_true, if_false, nI_add, pk_mul, pk_sub, s_div, s_rem, s_cl, p_le_t, p_le_f, p_lt_t, p_lt_f, p_eq_t, p_eq_f, bd1_s, bd2_s, bd3_s, nm_s, gd_t, gd_in, gd_nz, gd_bz0, gd_bz1, gd_cp, bI_t]))
  | succ r ih =>
    intro i nn hi hnn
    obtain ⟨m, rfl⟩ : ∃ m, nn = m + 1 := ⟨nn - 1, by omega⟩
    obtain ⟨c1, c2, c3⟩ := hB.2 (pl + i) (by omega)
    have ez := zch3 i (by omega)
    have hz : [108, 101, 97, 115, 101].getD i 0 < 256 := by
      have : ∀ i, i < 5 → [108, 101, 97, 115, 101].getD i 0 < 256 := by decide
      exact this i (by omega)
    obtain ⟨c, k1, k2⟩ := ih (i + 1) m (by omega) (by omega)
    rw [f_X7_isWord_s3_b20]
    generalize hg : [108, 101, 97, 115, 101].getD i 0 = z at *
    by_cases hc : b (pl + i) = z
    · refine ⟨c, by (repeat (simp (disch := omega) only [li_0, li_1, li_2, li_3, li_4, li_5, li_6, li_7, li_8, li_9, li_10, li_11, li_12, li_13, li_14, li_15, li_16, li_17, li_18, li_19, li_20, li_21, li_22, li_23, li_24, li_25, li_26, li_27, li_28, li_29, li_30, li_31, li_32, li_34, li_35, li_40, li_41, li_45, li_48, li_49, li_50, li_57, li_58, li_59, li_60, li_61, li_64, li_65, li_97, li_99, li_100, li_115, li_116, li_121, li_122, li_200, li_255, li_256, li_300, li_999, li_1000, li_12345, li_65535, li_1103515245, if_true, if_false, nI_add, pk_mul, pk_sub, s_div, s_rem, s_cl, p_le_t, p_le_f, p_lt_t, p_lt_f, p_eq_t, p_eq_f, bd1_s, bd2_s, bd3_s, nm_s, gd_t, gd_in, gd_nz, gd_bz0, gd_bz1, gd_cp, c2, ez, hc, k1])), ?_⟩
      rw [k2]
      constructor
      · intro h i' a1 a2
        by_cases e : i' = i
        · subst e; rw [hc, hg]
        · exact h i' (by omega) a2
      · intro h i' a1 a2
        exact h i' (by omega) a2
    · refine ⟨false, by (repeat (simp (disch := omega) only [li_0, li_1, li_2, li_3, li_4, li_5, li_6, li_7, li_8, li_9, li_10, li_11, li_12, li_13, li_14, li_15, li_16, li_17, li_18, li_19, li_20, li_21, li_22, li_23, li_24, li_25, li_26, li_27, li_28, li_29, li_30, li_31, li_32, li_34, li_35, li_40, li_41, li_45, li_48, li_49, li_50, li_57, li_58, li_59, li_60, li_61, li_64, li_65, li_97, li_99, li_100, li_115, li_116, li_121, li_122, li_200, li_255, li_256, li_300, li_999, li_1000, li_12345, li_65535, li_1103515245, if_true, if_false, nI_add, pk_mul, pk_sub, s_div, s_rem, s_cl, p_le_t, p_le_f, p_lt_t, p_lt_f, p_eq_t, p_eq_f, bd1_s, bd2_s, bd3_s, nm_s, gd_t, gd_in, gd_nz, gd_bz0, gd_bz1, gd_cp, c2, ez, bI_f])), ⟨fun h => (by cases h), fun h => ?_⟩⟩
      exact absurd ((h i (Nat.le_refl i) (by omega)).trans hg) hc
theorem iw3 (hB : gB len b bytes text) {pl L : Nat} (hp : pl + L ≤ len) : ∃ c : Bool, f_X7_isWord_s3 (nI pl) (nI (pl + L)) bytes = some (bI c) ∧ (c = true ↔ L = 5 ∧ b (pl + 0) = 108 ∧ b (pl + 1) = 101 ∧ b (pl + 2) = 97 ∧ b (pl + 3) = 115 ∧ b (pl + 4) = 101) := by
  have h1 := hB.1
  have ek : nI (pl + L) - nI pl = nI L := by rw [pk_sub (by omega), show pl + L - pl = L by omega]
  unfold f_X7_isWord_s3
  by_cases hL : L = 5
  · subst hL
    obtain ⟨c, k1, k2⟩ := iwl3 hB hp 5 0 zF (by omega) (by unfold zF; omega)
    refine ⟨c, by (repeat (simp (disch := omega) only [li_0, li_1, li_2, li_3, li_4, li_5, li_6, li_7, li_8, li_9, li_10, li_11, li_12, li_13, li_14, li_15, li_16, li_17, li_18, li_19, li_20, li_21, li_22, li_23, li_24, li_25, li_26, li_27, li_28, li_29, li_30, li_31, li_32, li_34, li_35, li_40, li_41, li_45, li_48, li_49, li_50, li_57, li_58, li_59, li_60, li_61, li_64, li_65, li_97, li_99, li_100, li_115, li_116, li_121, li_122, li_200, li_255, li_256, li_300, li_999, li_1000, li_12345, li_65535, li_1103515245, if_true, if_false, nI_add, pk_mul, pk_sub, s_div, s_rem, s_cl, p_le_t, p_le_f, p_lt_t, p_lt_f, p_eq_t, p_eq_f, bd1_s, bd2_s, bd3_s, nm_s, gd_t, gd_in, gd_nz, gd_bz0, gd_bz1, gd_cp, ek, k1])), ?_⟩
    rw [k2]
    constructor
    · intro h
      exact ⟨rfl, h 0 (by omega) (by omega), h 1 (by omega) (by omega), h 2 (by omega) (by omega), h 3 (by omega) (by omega), h 4 (by omega) (by omega)⟩
    · rintro ⟨-, q0, q1, q2, q3, q4⟩ i' - a2
      rcases (show i' = 0 ∨ i' = 1 ∨ i' = 2 ∨ i' = 3 ∨ i' = 4 by omega) with rfl | rfl | rfl | rfl | rfl
      · exact q0
      · exact q1
      · exact q2
      · exact q3
      · exact q4
  · exact ⟨false, by (repeat (simp (disch := omega) only [li_0, li_1, li_2, li_3, li_4, li_5, li_6, li_7, li_8, li_9, li_10, li_11, li_12, li_13, li_14, li_15, li_16, li_17, li_18, li_19, li_20, li_21, li_22, li_23, li_24, li_25, li_26, li_27, li_28, li_29, li_30, li_31, li_32, li_34, li_35, li_40, li_41, li_45, li_48, li_49, li_50, li_57, li_58, li_59, li_60, li_61, li_64, li_65, li_97, li_99, li_100, li_115, li_116, li_121, li_122, li_200, li_255, li_256, li_300, li_999, li_1000, li_12345, li_65535, li_1103515245, if_true, if_false, nI_add, pk_mul, pk_sub, s_div, s_rem, s_cl, p_le_t, p_le_f, p_lt_t, p_lt_f, p_eq_t, p_eq_f, bd1_s, bd2_s, bd3_s, nm_s, gd_t, gd_in, gd_nz, gd_bz0, gd_bz1, gd_cp, ek, bI_f])), ⟨fun h => (by cases h), fun h => absurd h.1 hL⟩⟩
theorem named0 : f_X9_named 115 107 121 0 0 0 = some (lN 7564153) := by decide +kernel
theorem named1 : f_X9_named 115 116 97 114 0 0 = some (lN 1937006962) := by decide +kernel
theorem named2 : f_X9_named 116 101 110 97 110 116 = some (lN 127978992397940) := by decide +kernel
theorem named3 : f_X9_named 108 101 97 115 101 0 = some (lN 465557353317) := by decide +kernel
theorem lcT {c : Nat} : lg_cmp (lN c) (lN c) = nI 0 := by
  unfold lg_cmp
  rw [if_neg (Int64.lt_irrefl), if_pos rfl]
  rfl
theorem lcF {h c : Nat} (hh : h < 2 ^ 63) (hc : c < 2 ^ 63) (hne : h ≠ c) : (lg_cmp (lN h) (lN c) = nI 0) = False := by
  apply eq_false
  have h2 : ¬ lN h = lN c := fun e => hne ((pk_lEQ hh hc).mp e)
  unfold lg_cmp
  by_cases h1 : lN c < lN h
  · rw [if_pos h1]; decide
  · rw [if_neg h1, if_neg h2]; decide
theorem hsh_lt (b : Nat → Nat) (p : Nat) : ∀ k, (∀ i, i < k → b (p + i) < 256) → hsh b p k < 256 ^ k := by
  intro k
  induction k with
  | zero => intro _; exact Nat.zero_lt_one
  | succ k ih =>
    intro h
    have h1 := ih (fun i hi => h i (by omega))
    have h2 := h k (by omega)
    rw [hsh, Nat.pow_succ]
    omega

theorem z_m9 : (nI 0 = -nI 9) = False := eq_false (by decide)
theorem z_m91 : (nI 1 = -nI 9) = False := eq_false (by decide)
theorem z_m92 : (nI 2 = -nI 9) = False := eq_false (by decide)
theorem z_m93 : (nI 3 = -nI 9) = False := eq_false (by decide)
theorem m_wordOf {h : Nat} (hh : h < 2 ^ 63) : f_X9_wordOf (lN h) = some (if h = 7564153 then nI 0 else if h = 1937006962 then nI 1 else if h = 127978992397940 then nI 2 else if h = 465557353317 then nI 3 else -nI 9) := by
  have hA := lcF (c := 7564153) hh (by decide)
  have hB := lcF (c := 1937006962) hh (by decide)
  have hC := lcF (c := 127978992397940) hh (by decide)
  have hD := lcF (c := 465557353317) hh (by decide)
  unfold f_X9_wordOf f_X9_wordOf_b45
  rw [named0, named1, named2, named3]
  by_cases c0 : h = 7564153
  · rw [if_pos c0, c0]
    simp only [li_0, li_1, li_2, li_3, li_4, li_5, li_6, li_7, li_8, li_9, li_10, li_11, li_12, li_13, li_14, li_15, li_16, li_17, li_18, li_19, li_20, li_21, li_22, li_23, li_24, li_25, li_26, li_27, li_28, li_29, li_30, li_31, li_32, li_34, li_35, li_40, li_41, li_45, li_48, li_49, li_50, li_57, li_58, li_59, li_60, li_61, li_64, li_65, li_97, li_99, li_100, li_115, li_116, li_121, li_122, li_200, li_255, li_256, li_300, li_999, li_1000, li_12345, li_65535, li_1103515245, bd1_s, lcT, if_true, z_m9, if_false]
  · rw [if_neg c0]
    by_cases c1 : h = 1937006962
    · rw [if_pos c1]
      rw [c1] at c0 ⊢
      have hA := lcF (c := 7564153) (h := 1937006962) (by decide) (by decide) (by decide)
      simp only [li_0, li_1, li_2, li_3, li_4, li_5, li_6, li_7, li_8, li_9, li_10, li_11, li_12, li_13, li_14, li_15, li_16, li_17, li_18, li_19, li_20, li_21, li_22, li_23, li_24, li_25, li_26, li_27, li_28, li_29, li_30, li_31, li_32, li_34, li_35, li_40, li_41, li_45, li_48, li_49, li_50, li_57, li_58, li_59, li_60, li_61, li_64, li_65, li_97, li_99, li_100, li_115, li_116, li_121, li_122, li_200, li_255, li_256, li_300, li_999, li_1000, li_12345, li_65535, li_1103515245, bd1_s, hA, lcT, if_true, z_m91, if_false]
    · rw [if_neg c1]
      by_cases c2 : h = 127978992397940
      · rw [if_pos c2]
        rw [c2] at c0 c1 ⊢
        have hA := lcF (c := 7564153) (h := 127978992397940) (by decide) (by decide) (by decide)
        have hB := lcF (c := 1937006962) (h := 127978992397940) (by decide) (by decide) (by decide)
        simp only [li_0, li_1, li_2, li_3, li_4, li_5, li_6, li_7, li_8, li_9, li_10, li_11, li_12, li_13, li_14, li_15, li_16, li_17, li_18, li_19, li_20, li_21, li_22, li_23, li_24, li_25, li_26, li_27, li_28, li_29, li_30, li_31, li_32, li_34, li_35, li_40, li_41, li_45, li_48, li_49, li_50, li_57, li_58, li_59, li_60, li_61, li_64, li_65, li_97, li_99, li_100, li_115, li_116, li_121, li_122, li_200, li_255, li_256, li_300, li_999, li_1000, li_12345, li_65535, li_1103515245, bd1_s, hA, hB, lcT, if_true, if_false]
      · rw [if_neg c2]
        by_cases c3 : h = 465557353317
        · rw [if_pos c3]
          rw [c3] at c0 c1 c2 ⊢
          have hA := lcF (c := 7564153) (h := 465557353317) (by decide) (by decide) (by decide)
          have hB := lcF (c := 1937006962) (h := 465557353317) (by decide) (by decide) (by decide)
          have hC := lcF (c := 127978992397940) (h := 465557353317) (by decide) (by decide) (by decide)
          simp only [li_0, li_1, li_2, li_3, li_4, li_5, li_6, li_7, li_8, li_9, li_10, li_11, li_12, li_13, li_14, li_15, li_16, li_17, li_18, li_19, li_20, li_21, li_22, li_23, li_24, li_25, li_26, li_27, li_28, li_29, li_30, li_31, li_32, li_34, li_35, li_40, li_41, li_45, li_48, li_49, li_50, li_57, li_58, li_59, li_60, li_61, li_64, li_65, li_97, li_99, li_100, li_115, li_116, li_121, li_122, li_200, li_255, li_256, li_300, li_999, li_1000, li_12345, li_65535, li_1103515245, bd1_s, hA, hB, hC, lcT, if_true, if_false]
        · rw [if_neg c3]
          simp only [li_0, li_1, li_2, li_3, li_4, li_5, li_6, li_7, li_8, li_9, li_10, li_11, li_12, li_13, li_14, li_15, li_16, li_17, li_18, li_19, li_20, li_21, li_22, li_23, li_24, li_25, li_26, li_27, li_28, li_29, li_30, li_31, li_32, li_34, li_35, li_40, li_41, li_45, li_48, li_49, li_50, li_57, li_58, li_59, li_60, li_61, li_64, li_65, li_97, li_99, li_100, li_115, li_116, li_121, li_122, li_200, li_255, li_256, li_300, li_999, li_1000, li_12345, li_65535, li_1103515245, bd1_s, hA c0, hB c1, hC c2, hD c3, if_true, if_false]
theorem hs_eq {b : Nat → Nat} {pl L : Nat} (hL : 1 ≤ L) (hb : ∀ i, i < L → 97 ≤ b (pl + i) ∧ b (pl + i) ≤ 122) : (hsh b pl (min L 7) = 7564153 ↔ L = 3 ∧ b (pl + 0) = 115 ∧ b (pl + 1) = 107 ∧ b (pl + 2) = 121) ∧ (hsh b pl (min L 7) = 1937006962 ↔ L = 4 ∧ b (pl + 0) = 115 ∧ b (pl + 1) = 116 ∧ b (pl + 2) = 97 ∧ b (pl + 3) = 114) ∧ (hsh b pl (min L 7) = 127978992397940 ↔ L = 6 ∧ b (pl + 0) = 116 ∧ b (pl + 1) = 101 ∧ b (pl + 2) = 110 ∧ b (pl + 3) = 97 ∧ b (pl + 4) = 110 ∧ b (pl + 5) = 116) ∧ (hsh b pl (min L 7) = 465557353317 ↔ L = 5 ∧ b (pl + 0) = 108 ∧ b (pl + 1) = 101 ∧ b (pl + 2) = 97 ∧ b (pl + 3) = 115 ∧ b (pl + 4) = 101) := by
  rcases (show L = 1 ∨ L = 2 ∨ L = 3 ∨ L = 4 ∨ L = 5 ∨ L = 6 ∨ 7 ≤ L by omega) with rfl | rfl | rfl | rfl | rfl | rfl | h7
  · have b0 := hb 0 (by omega)
    rw [show min 1 7 = 1 from rfl]
    simp only [hsh, true_and]
    refine ⟨⟨fun h => ?_, fun h => ?_⟩, ⟨fun h => ?_, fun h => ?_⟩, ⟨fun h => ?_, fun h => ?_⟩, ⟨fun h => ?_, fun h => ?_⟩⟩ <;> omega
  · have b0 := hb 0 (by omega)
    have b1 := hb 1 (by omega)
    rw [show min 2 7 = 2 from rfl]
    simp only [hsh, true_and]
    refine ⟨⟨fun h => ?_, fun h => ?_⟩, ⟨fun h => ?_, fun h => ?_⟩, ⟨fun h => ?_, fun h => ?_⟩, ⟨fun h => ?_, fun h => ?_⟩⟩ <;> omega
  · have b0 := hb 0 (by omega)
    have b1 := hb 1 (by omega)
    have b2 := hb 2 (by omega)
    rw [show min 3 7 = 3 from rfl]
    simp only [hsh, true_and]
    refine ⟨⟨fun h => ?_, fun h => ?_⟩, ⟨fun h => ?_, fun h => ?_⟩, ⟨fun h => ?_, fun h => ?_⟩, ⟨fun h => ?_, fun h => ?_⟩⟩ <;> omega
  · have b0 := hb 0 (by omega)
    have b1 := hb 1 (by omega)
    have b2 := hb 2 (by omega)
    have b3 := hb 3 (by omega)
    rw [show min 4 7 = 4 from rfl]
    simp only [hsh, true_and]
    refine ⟨⟨fun h => ?_, fun h => ?_⟩, ⟨fun h => ?_, fun h => ?_⟩, ⟨fun h => ?_, fun h => ?_⟩, ⟨fun h => ?_, fun h => ?_⟩⟩ <;> omega
  · have b0 := hb 0 (by omega)
    have b1 := hb 1 (by omega)
    have b2 := hb 2 (by omega)
    have b3 := hb 3 (by omega)
    have b4 := hb 4 (by omega)
    rw [show min 5 7 = 5 from rfl]
    simp only [hsh, true_and]
    refine ⟨⟨fun h => ?_, fun h => ?_⟩, ⟨fun h => ?_, fun h => ?_⟩, ⟨fun h => ?_, fun h => ?_⟩, ⟨fun h => ?_, fun h => ?_⟩⟩ <;> omega
  · have b0 := hb 0 (by omega)
    have b1 := hb 1 (by omega)
    have b2 := hb 2 (by omega)
    have b3 := hb 3 (by omega)
    have b4 := hb 4 (by omega)
    have b5 := hb 5 (by omega)
    rw [show min 6 7 = 6 from rfl]
    simp only [hsh, true_and]
    refine ⟨⟨fun h => ?_, fun h => ?_⟩, ⟨fun h => ?_, fun h => ?_⟩, ⟨fun h => ?_, fun h => ?_⟩, ⟨fun h => ?_, fun h => ?_⟩⟩ <;> omega
  · have b0 := hb 0 (by omega)
    have b1 := hb 1 (by omega)
    have b2 := hb 2 (by omega)
    have b3 := hb 3 (by omega)
    have b4 := hb 4 (by omega)
    have b5 := hb 5 (by omega)
    have b6 := hb 6 (by omega)
    rw [show min L 7 = 7 by omega]
    simp only [hsh, true_and]
    refine ⟨⟨fun h => ?_, fun h => ?_⟩, ⟨fun h => ?_, fun h => ?_⟩, ⟨fun h => ?_, fun h => ?_⟩, ⟨fun h => ?_, fun h => ?_⟩⟩ <;> omega
end TK
