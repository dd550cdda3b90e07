/-! letting -/
theorem ex_end {C : Nat → Prop} {k n : Nat} (h : n ≤ k) : ¬ ∃ k', k ≤ k' ∧ k' < n ∧ C k' := by
  rintro ⟨k', h1, h2, _⟩
  omega
theorem ex_step {C : Nat → Prop} {k n : Nat} (h : k < n) : (∃ k', k ≤ k' ∧ k' < n ∧ C k') ↔ C k ∨ ∃ k', k + 1 ≤ k' ∧ k' < n ∧ C k' := by
  constructor
  · rintro ⟨k', h1, h2, h3⟩
    by_cases e : k' = k
    · subst e; exact Or.inl h3
    · exact Or.inr ⟨k', by omega, h2, h3⟩
  · rintro (h3 | ⟨k', h1, h2, h3⟩)
    · exact ⟨k, Nat.le_refl k, h, h3⟩
    · exact ⟨k', by omega, h2, h3⟩
theorem fin_no {b : Bool} {A E E' C : Prop} (k2 : b = true ↔ A ∧ ¬ E') (hs : E ↔ C ∨ E') (hC : ¬ C) : b = true ↔ A ∧ ¬ E := by rw [k2, hs, or_iff_right hC]
theorem fin_yes {b : Bool} {A E E' C X : Prop} (k2 : b = true ↔ false = true ∧ X) (hs : E ↔ C ∨ E') (hC : C) : b = true ↔ A ∧ ¬ E := ⟨fun h => (by cases (k2.mp h).1), fun h => absurd (hs.mpr (Or.inl hC)) h.2⟩
theorem fin_ff {b : Bool} {X Y : Prop} (k2 : b = true ↔ false = true ∧ X) : b = true ↔ false = true ∧ Y := ⟨fun h => (by cases (k2.mp h).1), fun h => by cases h.1⟩
theorem fin_2 {b b1 : Bool} {A E E' C : Prop} (l2 : b = true ↔ b1 = true ∧ ¬ E') (k2 : b1 = true ↔ A ∧ ¬ C) (hs : E ↔ C ∨ E') : b = true ↔ A ∧ ¬ E := by rw [l2, k2, hs, not_or, and_assoc]
theorem or_no {b : Bool} {A E E' C : Prop} (k2 : b = true ↔ A ∨ E') (hs : E ↔ C ∨ E') (hC : ¬ C) : b = true ↔ A ∨ E := by rw [k2, hs, or_iff_right hC]
theorem or_yes {b : Bool} {A E E' C X : Prop} (k2 : b = true ↔ true = true ∨ X) (hs : E ↔ C ∨ E') (hC : C) : b = true ↔ A ∨ E := ⟨fun _ => Or.inr (hs.mpr (Or.inl hC)), fun _ => k2.mpr (Or.inl rfl)⟩
theorem or_tt {b : Bool} {X Y : Prop} (k2 : b = true ↔ true = true ∨ X) : b = true ↔ true = true ∨ Y := ⟨fun _ => Or.inl rfl, fun _ => k2.mpr (Or.inl rfl)⟩
theorem gd_bzI {α : Type} (b : Bool) {k : Option α} : gd (bzB (bI b)) k = k := by
  cases b
  · exact gd_bz0
  · exact gd_bz1
abbrev inO (n : Nat) (od : Nat → Nat) (k q : Nat) : Prop := (q + n - od (5 * k + 1)) % n < od (5 * k + 2)
def Hd (od : Nat → Nat) (σ k t d : Nat) : Prop := σ.testBit k = true ∧ od (5 * k) = t ∧ od (5 * k + 3) ≤ d ∧ d ≤ od (5 * k + 4)
def HS (n ns on : Nat) (sa sp od : Nat → Nat) (σ t d : Nat) : Prop := (∃ k, 0 ≤ k ∧ k < on ∧ Hd od σ k t d) → ∃ k, 0 ≤ k ∧ k < on ∧ (Hd od σ k t d ∧ ∃ j, 0 ≤ j ∧ j < ns ∧ inO n od k (sqN n (sa j) (sp j) d))
def LK (n ns nt on : Nat) (sa sp od op : Nat → Nat) (starts paces oparts prices sqb cls ms mof : Nat → Int32) : Prop :=
  2 ≤ n ∧ n ≤ 8 ∧ ns ≤ 8 ∧ nt ≤ 4 ∧ on ≤ 8 ∧ (∀ j, j < ns → sa j < n) ∧
  (∀ j d, j < ns → d < 1000000 → f_X5_squareOf (nI n) (nI ns) paces starts (nI j) (nI d) = some (nI (sqN n (sa j) (sp j) d)) ∧ f_X9_squareOf (nI n) ms (nI j) (nI d) = some (nI (sqN n (sa j) (sp j) d))) ∧
  ∀ k, k < on → okL n nt od k ∧ 1 ≤ op k ∧ op k ≤ 99 ∧ (∀ e, e < 5 → oparts (5 * k + e) = nI (od (5 * k + e)) ∧ mof (6 * k + e) = nI (od (5 * k + e))) ∧ prices k = nI (op k) ∧ mof (6 * k + 5) = nI (op k) ∧ sqb k = nI (sbits n (od (5 * k + 1)) (od (5 * k + 2))) ∧ cls k = nI (cbits n od k)
section LT
variable {n ns nt on : Nat} {sa sp od op : Nat → Nat} {starts paces oparts prices sqb cls ms mof : Nat → Int32}
theorem lk_L (h : LK n ns nt on sa sp od op starts paces oparts prices sqb cls ms mof) : gL n nt on od (nI on) oparts (fun j => if j = 6 then nI on else nI (od (j - 7))) := by
  obtain ⟨h1, h2, h3, h4, h5, h6, h7, h8⟩ := h
  exact gO_L (op := op) (by omega) (fun k hk => (h8 k hk).1) (fun k hk e he => ((h8 k hk).2.2.2.1 e he).1)
theorem x_isIn {σ k : Nat} (hs : σ < 256) (hk : k < 8) : f_X1_isIn (nI σ) (nI k) = some (bI (σ.testBit k)) := by
  have e := bitS (show σ < 2147483648 by omega) (show k < 31 by omega)
  unfold f_X1_isIn
  cases hb : σ.testBit k with
  | true =>
    rw [hb, bI_t] at e
    (repeat (simp (disch := omega) only [li_0, li_1, li_2, li_3, li_4, li_5, li_6, li_7, li_8, li_9, li_10, li_11, li_12, li_13, li_14, li_15, li_16, li_17, li_18, li_19, li_20, li_21, li_22, li_23, li_24, li_25, li_26, li_27, li_28, li_29, li_30, li_31, li_32, li_34, li_35, li_40, li_41, li_45, li_48, li_49, li_50, li_57, li_58, li_59, li_60, li_61, li_64, li_65, li_97, li_99, li_100, li_115, li_116, li_121, li_122, li_200, li_255, li_256, li_300, li_999, li_1000, li_12345, li_65535, li_1103515245, if_true, if_false, nI_add, pk_mul, pk_sub, s_div, s_rem, s_cl, p_le_t, p_le_f, p_lt_t, p_lt_f, p_eq_t, p_eq_f, bd1_s, bd2_s, bd3_s, nm_s, gd_t, gd_in, gd_nz, gd_bz0, gd_bz1, gd_cp, e, bI_t]))
  | false =>
    rw [hb, bI_f] at e
    (repeat (simp (disch := omega) only [li_0, li_1, li_2, li_3, li_4, li_5, li_6, li_7, li_8, li_9, li_10, li_11, li_12, li_13, li_14, li_15, li_16, li_17, li_18, li_19, li_20, li_21, li_22, li_23, li_24, li_25, li_26, li_27, li_28, li_29, li_30, li_31, li_32, li_34, li_35, li_40, li_41, li_45, li_48, li_49, li_50, li_57, li_58, li_59, li_60, li_61, li_64, li_65, li_97, li_99, li_100, li_115, li_116, li_121, li_122, li_200, li_255, li_256, li_300, li_999, li_1000, li_12345, li_65535, li_1103515245, if_true, if_false, nI_add, pk_mul, pk_sub, s_div, s_rem, s_cl, p_le_t, p_le_f, p_lt_t, p_lt_f, p_eq_t, p_eq_f, bd1_s, bd2_s, bd3_s, nm_s, gd_t, gd_in, gd_nz, gd_bz0, gd_bz1, gd_cp, e, bI_f]))
/-! prices -/
def prN (op : Nat → Nat) (σ : Nat) : Nat → Nat → Nat
  | 0, _ => 0
  | r + 1, k => (if σ.testBit k = true then op k else 0) + prN op σ r (k + 1)
theorem prN_le {op : Nat → Nat} {σ : Nat} : ∀ r k, (∀ j, k ≤ j → j < k + r → op j ≤ 99) → prN op σ r k ≤ 99 * r := by
  intro r
  induction r with
  | zero => intro k _; exact Nat.le_refl 0
  | succ r ih =>
    intro k h
    have h1 := ih (k + 1) (fun j a b => h j (by omega) (by omega))
    have h2 := h k (Nat.le_refl k) (by omega)
    rw [prN]
    by_cases hb : σ.testBit k = true
    · rw [if_pos hb]; omega
    · rw [if_neg hb]; omega
theorem lk_pr (h : LK n ns nt on sa sp od op starts paces oparts prices sqb cls ms mof) (σ : Nat) : prN op σ on 0 ≤ 792 := by
  have h1 := prN_le (op := op) (σ := σ) on 0 (fun j _ hj => (h.2.2.2.2.2.2.2 j (by omega)).2.2.1)
  have h2 := h.2.2.2.2.1
  omega
theorem x_price4 (h : LK n ns nt on sa sp od op starts paces oparts prices sqb cls ms mof) {σ : Nat} (hs : σ < 256) : ∀ (r k nn a : Nat), k + r = on → r < nn → f_X1_priceOf_b4 (nI on) prices (nI σ) nn (nI a) (nI k) = some (nI (a + prN op σ r k)) := by
  obtain ⟨h1, h2, h3, h4, h5, h6, h7, h8⟩ := id h
  intro r
  induction r with
  | zero =>
    intro k nn a hk hnn
    obtain ⟨m, rfl⟩ : ∃ m, nn = m + 1 := ⟨nn - 1, by omega⟩
    rw [f_X1_priceOf_b4, prN]
    (repeat (simp (disch := omega) only [li_0, li_1, li_2, li_3, li_4, li_5, li_6, li_7, li_8, li_9, li_10, li_11, li_12, li_13, li_14, li_15, li_16, li_17, li_18, li_19, li_20, li_21, li_22, li_23, li_24, li_25, li_26, li_27, li_28, li_29, li_30, li_31, li_32, li_34, li_35, li_40, li_41, li_45, li_48, li_49, li_50, li_57, li_58, li_59, li_60, li_61, li_64, li_65, li_97, li_99, li_100, li_115, li_116, li_121, li_122, li_200, li_255, li_256, li_300, li_999, li_1000, li_12345, li_65535, li_1103515245, if_true, if_false, nI_add, pk_mul, pk_sub, s_div, s_rem, s_cl, p_le_t, p_le_f, p_lt_t, p_lt_f, p_eq_t, p_eq_f, bd1_s, bd2_s, bd3_s, nm_s, gd_t, gd_in, gd_nz, gd_bz0, gd_bz1, gd_cp, Nat.add_zero]))
  | succ r ih =>
    intro k nn a hk hnn
    obtain ⟨m, rfl⟩ : ∃ m, nn = m + 1 := ⟨nn - 1, by omega⟩
    obtain ⟨q1, q2, q3, q4, q5, q6, q7, q8⟩ := h8 k (by omega)
    have e := x_isIn hs (show k < 8 by omega)
    have i0 := ih (k + 1) m a (by omega) (by omega)
    have i1 := ih (k + 1) m (a + op k) (by omega) (by omega)
    rw [f_X1_priceOf_b4, prN]
    unfold f_X1_priceOf_b34
    cases hb : σ.testBit k with
    | true =>
      rw [hb, bI_t] at e
      rw [if_pos rfl]
      (repeat (simp (disch := omega) only [li_0, li_1, li_2, li_3, li_4, li_5, li_6, li_7, li_8, li_9, li_10, li_11, li_12, li_13, li_14, li_15, li_16, li_17, li_18, li_19, li_20, li_21, li_22, li_23, li_24, li_25, li_26, li_27, li_28, li_29, li_30, li_31, li_32, li_34, li_35, li_40, li_41, li_45, li_48, li_49, li_50, li_57, li_58, li_59, li_60, li_61, li_64, li_65, li_97, li_99, li_100, li_115, li_116, li_121, li_122, li_200, li_255, li_256, li_300, li_999, li_1000, li_12345, li_65535, li_1103515245, if_true, if_false, nI_add, pk_mul, pk_sub, s_div, s_rem, s_cl, p_le_t, p_le_f, p_lt_t, p_lt_f, p_eq_t, p_eq_f, bd1_s, bd2_s, bd3_s, nm_s, gd_t, gd_in, gd_nz, gd_bz0, gd_bz1, gd_cp, e, q5, i1, Nat.add_assoc]))
    | false =>
      rw [hb, bI_f] at e
      rw [if_neg (show ¬ false = true by decide)]
      (repeat (simp (disch := omega) only [li_0, li_1, li_2, li_3, li_4, li_5, li_6, li_7, li_8, li_9, li_10, li_11, li_12, li_13, li_14, li_15, li_16, li_17, li_18, li_19, li_20, li_21, li_22, li_23, li_24, li_25, li_26, li_27, li_28, li_29, li_30, li_31, li_32, li_34, li_35, li_40, li_41, li_45, li_48, li_49, li_50, li_57, li_58, li_59, li_60, li_61, li_64, li_65, li_97, li_99, li_100, li_115, li_116, li_121, li_122, li_200, li_255, li_256, li_300, li_999, li_1000, li_12345, li_65535, li_1103515245, if_true, if_false, nI_add, pk_mul, pk_sub, s_div, s_rem, s_cl, p_le_t, p_le_f, p_lt_t, p_lt_f, p_eq_t, p_eq_f, bd1_s, bd2_s, bd3_s, nm_s, gd_t, gd_in, gd_nz, gd_bz0, gd_bz1, gd_cp, e, Nat.add_zero, i0, Nat.zero_add]))
theorem x_priceOf (h : LK n ns nt on sa sp od op starts paces oparts prices sqb cls ms mof) {σ : Nat} (hs : σ < 256) : f_X1_priceOf (nI on) prices (nI σ) = some (nI (prN op σ on 0)) := by
  have h5 := h.2.2.2.2.1
  have e := x_price4 h hs on 0 zF 0 (by omega) (by unfold zF; omega)
  rw [Nat.zero_add] at e
  exact e
theorem m_price (h : LK n ns nt on sa sp od op starts paces oparts prices sqb cls ms mof) {σ : Nat} (hs : σ < 256) (k42 : Int32 → Int32 → Int32 → Option (Int32 × Int32)) (x1 x2 x4 x5 : Int32) : ∀ (r k nn a : Nat), k + r = on → r < nn → f_X9_letting_b59 (nI n) (nI ns) (nI nt) (nI on) mof ms k42 x1 x2 x4 x5 (nI σ) nn (nI a) (nI k) = f_X9_letting_b59 (nI n) (nI ns) (nI nt) (nI on) mof ms k42 x1 x2 x4 x5 (nI σ) (0 + 1) (nI (a + prN op σ r k)) (nI on) := by
  obtain ⟨h1, h2, h3, h4, h5, h6, h7, h8⟩ := id h
  intro r
  induction r with
  | zero =>
    intro k nn a hk hnn
    obtain ⟨m, rfl⟩ : ∃ m, nn = m + 1 := ⟨nn - 1, by omega⟩
    rw [f_X9_letting_b59, prN, f_X9_letting_b59]
    (repeat (simp (disch := omega) only [li_0, li_1, li_2, li_3, li_4, li_5, li_6, li_7, li_8, li_9, li_10, li_11, li_12, li_13, li_14, li_15, li_16, li_17, li_18, li_19, li_20, li_21, li_22, li_23, li_24, li_25, li_26, li_27, li_28, li_29, li_30, li_31, li_32, li_34, li_35, li_40, li_41, li_45, li_48, li_49, li_50, li_57, li_58, li_59, li_60, li_61, li_64, li_65, li_97, li_99, li_100, li_115, li_116, li_121, li_122, li_200, li_255, li_256, li_300, li_999, li_1000, li_12345, li_65535, li_1103515245, if_true, if_false, nI_add, pk_mul, pk_sub, s_div, s_rem, s_cl, p_le_t, p_le_f, p_lt_t, p_lt_f, p_eq_t, p_eq_f, bd1_s, bd2_s, bd3_s, nm_s, gd_t, gd_in, gd_nz, gd_bz0, gd_bz1, gd_cp, Nat.add_zero]))
  | succ r ih =>
    intro k nn a hk hnn
    obtain ⟨m, rfl⟩ : ∃ m, nn = m + 1 := ⟨nn - 1, by omega⟩
    obtain ⟨q1, q2, q3, q4, q5, q6, q7, q8⟩ := h8 k (by omega)
    have e := bitS (show σ < 2147483648 by omega) (show k < 31 by omega)
    have i0 := ih (k + 1) m (a + 0) (by omega) (by omega)
    have i1 := ih (k + 1) m (a + op k) (by omega) (by omega)
    rw [Nat.add_assoc] at i0 i1
    rw [f_X9_letting_b59, prN]
    unfold f_X9_letting_b97
    cases hb : σ.testBit k with
    | true =>
      rw [hb, bI_t] at e
      rw [if_pos rfl, ← i1]
      (repeat (simp (disch := omega) only [li_0, li_1, li_2, li_3, li_4, li_5, li_6, li_7, li_8, li_9, li_10, li_11, li_12, li_13, li_14, li_15, li_16, li_17, li_18, li_19, li_20, li_21, li_22, li_23, li_24, li_25, li_26, li_27, li_28, li_29, li_30, li_31, li_32, li_34, li_35, li_40, li_41, li_45, li_48, li_49, li_50, li_57, li_58, li_59, li_60, li_61, li_64, li_65, li_97, li_99, li_100, li_115, li_116, li_121, li_122, li_200, li_255, li_256, li_300, li_999, li_1000, li_12345, li_65535, li_1103515245, if_true, if_false, nI_add, pk_mul, pk_sub, s_div, s_rem, s_cl, p_le_t, p_le_f, p_lt_t, p_lt_f, p_eq_t, p_eq_f, bd1_s, bd2_s, bd3_s, nm_s, gd_t, gd_in, gd_nz, gd_bz0, gd_bz1, gd_cp, e, q6]))
    | false =>
      rw [hb, bI_f] at e
      rw [if_neg (show ¬ false = true by decide), ← i0]
      (repeat (simp (disch := omega) only [li_0, li_1, li_2, li_3, li_4, li_5, li_6, li_7, li_8, li_9, li_10, li_11, li_12, li_13, li_14, li_15, li_16, li_17, li_18, li_19, li_20, li_21, li_22, li_23, li_24, li_25, li_26, li_27, li_28, li_29, li_30, li_31, li_32, li_34, li_35, li_40, li_41, li_45, li_48, li_49, li_50, li_57, li_58, li_59, li_60, li_61, li_64, li_65, li_97, li_99, li_100, li_115, li_116, li_121, li_122, li_200, li_255, li_256, li_300, li_999, li_1000, li_12345, li_65535, li_1103515245, if_true, if_false, nI_add, pk_mul, pk_sub, s_div, s_rem, s_cl, p_le_t, p_le_f, p_lt_t, p_lt_f, p_eq_t, p_eq_f, bd1_s, bd2_s, bd3_s, nm_s, gd_t, gd_in, gd_nz, gd_bz0, gd_bz1, gd_cp, e]))
/-! clashes -/
theorem x_cl2 (h : LK n ns nt on sa sp od op starts paces oparts prices sqb cls ms mof) {σ : Nat} (hs : σ < 256) : ∀ (r k nn : Nat), k + r = on → r < nn → ∃ b : Bool, f_X1_clashesWithin_b2 (nI on) cls (nI σ) nn (nI k) = some (bI b) ∧ (b = true ↔ false = true ∨ ∃ k', k ≤ k' ∧ k' < on ∧ (∃ i', 0 ≤ i' ∧ i' < k' ∧ (σ.testBit k' = true ∧ σ.testBit i' = true ∧ shareN n od i' k' = true))) := by
  obtain ⟨h1, h2, h3, h4, h5, h6, h7, h8⟩ := id h
  intro r
  induction r with
  | zero =>
    intro k nn hk hnn
    obtain ⟨m, rfl⟩ : ∃ m, nn = m + 1 := ⟨nn - 1, by omega⟩
    refine ⟨false, ?_, ⟨fun e => Or.inl e, fun e => e.elim id (fun e => absurd e (ex_end (by omega)))⟩⟩
    rw [f_X1_clashesWithin_b2]
    (repeat (simp (disch := omega) only [li_0, li_1, li_2, li_3, li_4, li_5, li_6, li_7, li_8, li_9, li_10, li_11, li_12, li_13, li_14, li_15, li_16, li_17, li_18, li_19, li_20, li_21, li_22, li_23, li_24, li_25, li_26, li_27, li_28, li_29, li_30, li_31, li_32, li_34, li_35, li_40, li_41, li_45, li_48, li_49, li_50, li_57, li_58, li_59, li_60, li_61, li_64, li_65, li_97, li_99, li_100, li_115, li_116, li_121, li_122, li_200, li_255, li_256, li_300, li_999, li_1000, li_12345, li_65535, li_1103515245, if_true, if_false, nI_add, pk_mul, pk_sub, s_div, s_rem, s_cl, p_le_t, p_le_f, p_lt_t, p_lt_f, p_eq_t, p_eq_f, bd1_s, bd2_s, bd3_s, nm_s, gd_t, gd_in, gd_nz, gd_bz0, gd_bz1, gd_cp, bI_f]))
  | succ r ih =>
    intro k nn hk hnn
    obtain ⟨m, rfl⟩ : ∃ m, nn = m + 1 := ⟨nn - 1, by omega⟩
    obtain ⟨q1, q2, q3, q4, q5, q6, q7, q8⟩ := h8 k (by omega)
    have e := x_isIn hs (show k < 8 by omega)
    have hst := ex_step (C := fun k' => ∃ i', 0 ≤ i' ∧ i' < k' ∧ (σ.testBit k' = true ∧ σ.testBit i' = true ∧ shareN n od i' k' = true)) (show k < on by omega)
    obtain ⟨b, i1, i2⟩ := ih (k + 1) m (by omega) (by omega)
    rw [f_X1_clashesWithin_b2]
    unfold f_X1_clashesWithin_b34
    cases hb : σ.testBit k with
    | false =>
      rw [hb, bI_f] at e
      refine ⟨b, ?_, or_no i2 hst ?_⟩
      · (repeat (simp (disch := omega) only [li_0, li_1, li_2, li_3, li_4, li_5, li_6, li_7, li_8, li_9, li_10, li_11, li_12, li_13, li_14, li_15, li_16, li_17, li_18, li_19, li_20, li_21, li_22, li_23, li_24, li_25, li_26, li_27, li_28, li_29, li_30, li_31, li_32, li_34, li_35, li_40, li_41, li_45, li_48, li_49, li_50, li_57, li_58, li_59, li_60, li_61, li_64, li_65, li_97, li_99, li_100, li_115, li_116, li_121, li_122, li_200, li_255, li_256, li_300, li_999, li_1000, li_12345, li_65535, li_1103515245, if_true, if_false, nI_add, pk_mul, pk_sub, s_div, s_rem, s_cl, p_le_t, p_le_f, p_lt_t, p_lt_f, p_eq_t, p_eq_f, bd1_s, bd2_s, bd3_s, nm_s, gd_t, gd_in, gd_nz, gd_bz0, gd_bz1, gd_cp, e, i1]))
      · rintro ⟨i', _, _, h9, _⟩
        rw [hb] at h9
        cases h9
    | true =>
      rw [hb, bI_t] at e
      have fa := fa_and (cbits n od k) σ
      have hlt : cbits n od k &&& σ < 256 := and_256 hs
      by_cases h0 : cbits n od k &&& σ = 0
      · rw [h0] at fa
        refine ⟨b, ?_, or_no i2 hst ?_⟩
        · (repeat (simp (disch := omega) only [li_0, li_1, li_2, li_3, li_4, li_5, li_6, li_7, li_8, li_9, li_10, li_11, li_12, li_13, li_14, li_15, li_16, li_17, li_18, li_19, li_20, li_21, li_22, li_23, li_24, li_25, li_26, li_27, li_28, li_29, li_30, li_31, li_32, li_34, li_35, li_40, li_41, li_45, li_48, li_49, li_50, li_57, li_58, li_59, li_60, li_61, li_64, li_65, li_97, li_99, li_100, li_115, li_116, li_121, li_122, li_200, li_255, li_256, li_300, li_999, li_1000, li_12345, li_65535, li_1103515245, if_true, if_false, nI_add, pk_mul, pk_sub, s_div, s_rem, s_cl, p_le_t, p_le_f, p_lt_t, p_lt_f, p_eq_t, p_eq_f, bd1_s, bd2_s, bd3_s, nm_s, gd_t, gd_in, gd_nz, gd_bz0, gd_bz1, gd_cp, e, q8, fa, i1]))
        · rintro ⟨i', _, a1, _, a2, a3⟩
          exact ((and_ne _ _).mpr ⟨i', by rw [cbits_fb, fb_bit]; exact ⟨a1, a3⟩, a2⟩) h0
      · obtain ⟨i', a1, a2⟩ := (and_ne _ _).mp h0
        rw [cbits_fb, fb_bit] at a1
        refine ⟨true, ?_, ⟨fun _ => Or.inr (hst.mpr (Or.inl ⟨i', by omega, a1.1, hb, a2, a1.2⟩)), fun _ => rfl⟩⟩
        (repeat (simp (disch := omega) only [li_0, li_1, li_2, li_3, li_4, li_5, li_6, li_7, li_8, li_9, li_10, li_11, li_12, li_13, li_14, li_15, li_16, li_17, li_18, li_19, li_20, li_21, li_22, li_23, li_24, li_25, li_26, li_27, li_28, li_29, li_30, li_31, li_32, li_34, li_35, li_40, li_41, li_45, li_48, li_49, li_50, li_57, li_58, li_59, li_60, li_61, li_64, li_65, li_97, li_99, li_100, li_115, li_116, li_121, li_122, li_200, li_255, li_256, li_300, li_999, li_1000, li_12345, li_65535, li_1103515245, if_true, if_false, nI_add, pk_mul, pk_sub, s_div, s_rem, s_cl, p_le_t, p_le_f, p_lt_t, p_lt_f, p_eq_t, p_eq_f, bd1_s, bd2_s, bd3_s, nm_s, gd_t, gd_in, gd_nz, gd_bz0, gd_bz1, gd_cp, e, q8, fa, bI_t]))
theorem m_offered (h : LK n ns nt on sa sp od op starts paces oparts prices sqb cls ms mof) {k q : Nat} (hk : k < on) (hq : q < n) : f_X9_offered (nI n) mof (nI k) (nI q) = some (bI (decide (inO n od k q))) := by
  obtain ⟨h1, h2, h3, h4, h5, h6, h7, h8⟩ := id h
  obtain ⟨⟨o1, o2, o3, o4, o5, o6⟩, q2, q3, q4, q5, q6, q7, q8⟩ := h8 k (by omega)
  have e := m_hasSquare (by omega) h2 o2 o4 hq
  have e1 := (q4 1 (by decide)).2
  have e2 := (q4 2 (by decide)).2
  unfold f_X9_offered
  (repeat (simp (disch := omega) only [li_0, li_1, li_2, li_3, li_4, li_5, li_6, li_7, li_8, li_9, li_10, li_11, li_12, li_13, li_14, li_15, li_16, li_17, li_18, li_19, li_20, li_21, li_22, li_23, li_24, li_25, li_26, li_27, li_28, li_29, li_30, li_31, li_32, li_34, li_35, li_40, li_41, li_45, li_48, li_49, li_50, li_57, li_58, li_59, li_60, li_61, li_64, li_65, li_97, li_99, li_100, li_115, li_116, li_121, li_122, li_200, li_255, li_256, li_300, li_999, li_1000, li_12345, li_65535, li_1103515245, if_true, if_false, nI_add, pk_mul, pk_sub, s_div, s_rem, s_cl, p_le_t, p_le_f, p_lt_t, p_lt_f, p_eq_t, p_eq_f, bd1_s, bd2_s, bd3_s, nm_s, gd_t, gd_in, gd_nz, gd_bz0, gd_bz1, gd_cp, e1, e2, e, gd_bzI]))
theorem m_cl62f (h : LK n ns nt on sa sp od op starts paces oparts prices sqb cls ms mof) (j i : Nat) : ∀ (r q nn : Nat), q + r = n → r < nn → f_X9_clash_b62 (nI n) mof (nI j) (nI i) (nI 0) nn (nI 0) (nI q) = some (nI 0) := by
  obtain ⟨h1, h2, h3, h4, h5, h6, h7, h8⟩ := id h
  intro r
  induction r with
  | zero =>
    intro q nn hq hnn
    obtain ⟨m, rfl⟩ : ∃ m, nn = m + 1 := ⟨nn - 1, by omega⟩
    rw [f_X9_clash_b62]
    (repeat (simp (disch := omega) only [li_0, li_1, li_2, li_3, li_4, li_5, li_6, li_7, li_8, li_9, li_10, li_11, li_12, li_13, li_14, li_15, li_16, li_17, li_18, li_19, li_20, li_21, li_22, li_23, li_24, li_25, li_26, li_27, li_28, li_29, li_30, li_31, li_32, li_34, li_35, li_40, li_41, li_45, li_48, li_49, li_50, li_57, li_58, li_59, li_60, li_61, li_64, li_65, li_97, li_99, li_100, li_115, li_116, li_121, li_122, li_200, li_255, li_256, li_300, li_999, li_1000, li_12345, li_65535, li_1103515245, if_true, if_false, nI_add, pk_mul, pk_sub, s_div, s_rem, s_cl, p_le_t, p_le_f, p_lt_t, p_lt_f, p_eq_t, p_eq_f, bd1_s, bd2_s, bd3_s, nm_s, gd_t, gd_in, gd_nz, gd_bz0, gd_bz1, gd_cp]))
  | succ r ih =>
    intro q nn hq hnn
    obtain ⟨m, rfl⟩ : ∃ m, nn = m + 1 := ⟨nn - 1, by omega⟩
    have i1 := ih (q + 1) m (by omega) (by omega)
    rw [f_X9_clash_b62]
    unfold f_X9_clash_b104 f_X9_clash_b105
    (repeat (simp (disch := omega) only [li_0, li_1, li_2, li_3, li_4, li_5, li_6, li_7, li_8, li_9, li_10, li_11, li_12, li_13, li_14, li_15, li_16, li_17, li_18, li_19, li_20, li_21, li_22, li_23, li_24, li_25, li_26, li_27, li_28, li_29, li_30, li_31, li_32, li_34, li_35, li_40, li_41, li_45, li_48, li_49, li_50, li_57, li_58, li_59, li_60, li_61, li_64, li_65, li_97, li_99, li_100, li_115, li_116, li_121, li_122, li_200, li_255, li_256, li_300, li_999, li_1000, li_12345, li_65535, li_1103515245, if_true, if_false, nI_add, pk_mul, pk_sub, s_div, s_rem, s_cl, p_le_t, p_le_f, p_lt_t, p_lt_f, p_eq_t, p_eq_f, bd1_s, bd2_s, bd3_s, nm_s, gd_t, gd_in, gd_nz, gd_bz0, gd_bz1, gd_cp, i1]))
theorem m_cl62t (h : LK n ns nt on sa sp od op starts paces oparts prices sqb cls ms mof) {j i : Nat} (hj : j < on) (hi : i < on) : ∀ (r q nn : Nat) (acc : Bool), q + r = n → r < nn → ∃ b : Bool, f_X9_clash_b62 (nI n) mof (nI j) (nI i) (nI 1) nn (bI acc) (nI q) = some (bI b) ∧ (b = true ↔ acc = true ∨ ∃ q', q ≤ q' ∧ q' < n ∧ (inO n od j q' ∧ inO n od i q')) := by
  obtain ⟨h1, h2, h3, h4, h5, h6, h7, h8⟩ := id h
  intro r
  induction r with
  | zero =>
    intro q nn acc hq hnn
    obtain ⟨m, rfl⟩ : ∃ m, nn = m + 1 := ⟨nn - 1, by omega⟩
    refine ⟨acc, ?_, ⟨fun e => Or.inl e, fun e => e.elim id (fun e => absurd e (ex_end (by omega)))⟩⟩
    rw [f_X9_clash_b62]
    (repeat (simp (disch := omega) only [li_0, li_1, li_2, li_3, li_4, li_5, li_6, li_7, li_8, li_9, li_10, li_11, li_12, li_13, li_14, li_15, li_16, li_17, li_18, li_19, li_20, li_21, li_22, li_23, li_24, li_25, li_26, li_27, li_28, li_29, li_30, li_31, li_32, li_34, li_35, li_40, li_41, li_45, li_48, li_49, li_50, li_57, li_58, li_59, li_60, li_61, li_64, li_65, li_97, li_99, li_100, li_115, li_116, li_121, li_122, li_200, li_255, li_256, li_300, li_999, li_1000, li_12345, li_65535, li_1103515245, if_true, if_false, nI_add, pk_mul, pk_sub, s_div, s_rem, s_cl, p_le_t, p_le_f, p_lt_t, p_lt_f, p_eq_t, p_eq_f, bd1_s, bd2_s, bd3_s, nm_s, gd_t, gd_in, gd_nz, gd_bz0, gd_bz1, gd_cp, gd_bzI]))
  | succ r ih =>
    intro q nn acc hq hnn
    obtain ⟨m, rfl⟩ : ∃ m, nn = m + 1 := ⟨nn - 1, by omega⟩
    have e1 := m_offered h hj (show q < n by omega)
    have e2 := m_offered h hi (show q < n by omega)
    have hst := ex_step (C := fun q' => inO n od j q' ∧ inO n od i q') (show q < n by omega)
    obtain ⟨bt, t1, t2⟩ := ih (q + 1) m true (by omega) (by omega)
    obtain ⟨bf, f1, f2⟩ := ih (q + 1) m false (by omega) (by omega)
    rw [bI_t] at t1
    rw [bI_f] at f1
    rw [f_X9_clash_b62]
    unfold f_X9_clash_b104 f_X9_clash_b100 f_X9_clash_b105
    cases acc with
    | true => exact ⟨bt, by (repeat (simp (disch := omega) only [li_0, li_1, li_2, li_3, li_4, li_5, li_6, li_7, li_8, li_9, li_10, li_11, li_12, li_13, li_14, li_15, li_16, li_17, li_18, li_19, li_20, li_21, li_22, li_23, li_24, li_25, li_26, li_27, li_28, li_29, li_30, li_31, li_32, li_34, li_35, li_40, li_41, li_45, li_48, li_49, li_50, li_57, li_58, li_59, li_60, li_61, li_64, li_65, li_97, li_99, li_100, li_115, li_116, li_121, li_122, li_200, li_255, li_256, li_300, li_999, li_1000, li_12345, li_65535, li_1103515245, if_true, if_false, nI_add, pk_mul, pk_sub, s_div, s_rem, s_cl, p_le_t, p_le_f, p_lt_t, p_lt_f, p_eq_t, p_eq_f, bd1_s, bd2_s, bd3_s, nm_s, gd_t, gd_in, gd_nz, gd_bz0, gd_bz1, gd_cp, bI_t, t1])), or_tt t2⟩
    | false =>
      by_cases c1 : inO n od j q
      · by_cases c2 : inO n od i q
        · rw [decide_eq_true c1, bI_t] at e1
          rw [decide_eq_true c2, bI_t] at e2
          exact ⟨bt, by (repeat (simp (disch := omega) only [li_0, li_1, li_2, li_3, li_4, li_5, li_6, li_7, li_8, li_9, li_10, li_11, li_12, li_13, li_14, li_15, li_16, li_17, li_18, li_19, li_20, li_21, li_22, li_23, li_24, li_25, li_26, li_27, li_28, li_29, li_30, li_31, li_32, li_34, li_35, li_40, li_41, li_45, li_48, li_49, li_50, li_57, li_58, li_59, li_60, li_61, li_64, li_65, li_97, li_99, li_100, li_115, li_116, li_121, li_122, li_200, li_255, li_256, li_300, li_999, li_1000, li_12345, li_65535, li_1103515245, if_true, if_false, nI_add, pk_mul, pk_sub, s_div, s_rem, s_cl, p_le_t, p_le_f, p_lt_t, p_lt_f, p_eq_t, p_eq_f, bd1_s, bd2_s, bd3_s, nm_s, gd_t, gd_in, gd_nz, gd_bz0, gd_bz1, gd_cp, bI_f, e1, e2, t1])), or_yes t2 hst ⟨c1, c2⟩⟩
        · rw [decide_eq_true c1, bI_t] at e1
          rw [decide_eq_false c2, bI_f] at e2
          exact ⟨bf, by (repeat (simp (disch := omega) only [li_0, li_1, li_2, li_3, li_4, li_5, li_6, li_7, li_8, li_9, li_10, li_11, li_12, li_13, li_14, li_15, li_16, li_17, li_18, li_19, li_20, li_21, li_22, li_23, li_24, li_25, li_26, li_27, li_28, li_29, li_30, li_31, li_32, li_34, li_35, li_40, li_41, li_45, li_48, li_49, li_50, li_57, li_58, li_59, li_60, li_61, li_64, li_65, li_97, li_99, li_100, li_115, li_116, li_121, li_122, li_200, li_255, li_256, li_300, li_999, li_1000, li_12345, li_65535, li_1103515245, if_true, if_false, nI_add, pk_mul, pk_sub, s_div, s_rem, s_cl, p_le_t, p_le_f, p_lt_t, p_lt_f, p_eq_t, p_eq_f, bd1_s, bd2_s, bd3_s, nm_s, gd_t, gd_in, gd_nz, gd_bz0, gd_bz1, gd_cp, bI_f, e1, e2, f1])), or_no f2 hst (fun e => c2 e.2)⟩
      · rw [decide_eq_false c1, bI_f] at e1
        exact ⟨bf, by (repeat (simp (disch := omega) only [li_0, li_1, li_2, li_3, li_4, li_5, li_6, li_7, li_8, li_9, li_10, li_11, li_12, li_13, li_14, li_15, li_16, li_17, li_18, li_19, li_20, li_21, li_22, li_23, li_24, li_25, li_26, li_27, li_28, li_29, li_30, li_31, li_32, li_34, li_35, li_40, li_41, li_45, li_48, li_49, li_50, li_57, li_58, li_59, li_60, li_61, li_64, li_65, li_97, li_99, li_100, li_115, li_116, li_121, li_122, li_200, li_255, li_256, li_300, li_999, li_1000, li_12345, li_65535, li_1103515245, if_true, if_false, nI_add, pk_mul, pk_sub, s_div, s_rem, s_cl, p_le_t, p_le_f, p_lt_t, p_lt_f, p_eq_t, p_eq_f, bd1_s, bd2_s, bd3_s, nm_s, gd_t, gd_in, gd_nz, gd_bz0, gd_bz1, gd_cp, bI_f, e1, f1])), or_no f2 hst (fun e => c1 e.1)⟩
theorem m_clash (h : LK n ns nt on sa sp od op starts paces oparts prices sqb cls ms mof) {j i : Nat} (hj : j < on) (hi : i < on) : f_X9_clash (nI n) mof (nI j) (nI i) = some (bI (shareN n od j i)) := by
  obtain ⟨h1, h2, h3, h4, h5, h6, h7, h8⟩ := id h
  obtain ⟨⟨o1, o2, o3, o4, o5, o6⟩, -, -, q4, -⟩ := h8 j hj
  obtain ⟨⟨p1, p2, p3, p4, p5, p6⟩, -, -, r4, -⟩ := h8 i hi
  have a3 := (q4 3 (by decide)).2
  have a4 := (q4 4 (by decide)).2
  have c3 := (r4 3 (by decide)).2
  have c4 := (r4 4 (by decide)).2
  have ef := m_cl62f h j i n 0 zF (by omega) (by unfold zF; omega)
  obtain ⟨b, k1, k2⟩ := m_cl62t h hj hi n 0 zF false (by omega) (by unfold zF; omega)
  rw [bI_f] at k1
  have hb : b = (List.range n).any (fun q => decide ((q + n - od (5 * j + 1)) % n < od (5 * j + 2)) && decide ((q + n - od (5 * i + 1)) % n < od (5 * i + 2))) := by
    rw [Bool.eq_iff_iff, k2, List.any_eq_true]
    constructor
    · rintro (e | ⟨q, -, e1, e2, e3⟩)
      · cases e
      · exact ⟨q, List.mem_range.mpr e1, by rw [Bool.and_eq_true]; exact ⟨decide_eq_true e2, decide_eq_true e3⟩⟩
    · rintro ⟨q, e1, e2⟩
      rw [Bool.and_eq_true] at e2
      exact Or.inr ⟨q, Nat.zero_le q, List.mem_range.mp e1, of_decide_eq_true e2.1, of_decide_eq_true e2.2⟩
  unfold f_X9_clash f_X9_clash_b54 f_X9_clash_b55 shareN
  rw [← hb]
  by_cases q1 : od (5 * j + 3) ≤ od (5 * i + 4)
  · by_cases q2 : od (5 * i + 3) ≤ od (5 * j + 4)
    · (repeat (simp (disch := omega) only [li_0, li_1, li_2, li_3, li_4, li_5, li_6, li_7, li_8, li_9, li_10, li_11, li_12, li_13, li_14, li_15, li_16, li_17, li_18, li_19, li_20, li_21, li_22, li_23, li_24, li_25, li_26, li_27, li_28, li_29, li_30, li_31, li_32, li_34, li_35, li_40, li_41, li_45, li_48, li_49, li_50, li_57, li_58, li_59, li_60, li_61, li_64, li_65, li_97, li_99, li_100, li_115, li_116, li_121, li_122, li_200, li_255, li_256, li_300, li_999, li_1000, li_12345, li_65535, li_1103515245, if_true, if_false, nI_add, pk_mul, pk_sub, s_div, s_rem, s_cl, p_le_t, p_le_f, p_lt_t, p_lt_f, p_eq_t, p_eq_f, bd1_s, bd2_s, bd3_s, nm_s, gd_t, gd_in, gd_nz, gd_bz0, gd_bz1, gd_cp, a3, a4, c3, c4, k1, decide_eq_true q1, decide_eq_true q2, Bool.and_true]))
    · (repeat (simp (disch := omega) only [li_0, li_1, li_2, li_3, li_4, li_5, li_6, li_7, li_8, li_9, li_10, li_11, li_12, li_13, li_14, li_15, li_16, li_17, li_18, li_19, li_20, li_21, li_22, li_23, li_24, li_25, li_26, li_27, li_28, li_29, li_30, li_31, li_32, li_34, li_35, li_40, li_41, li_45, li_48, li_49, li_50, li_57, li_58, li_59, li_60, li_61, li_64, li_65, li_97, li_99, li_100, li_115, li_116, li_121, li_122, li_200, li_255, li_256, li_300, li_999, li_1000, li_12345, li_65535, li_1103515245, if_true, if_false, nI_add, pk_mul, pk_sub, s_div, s_rem, s_cl, p_le_t, p_le_f, p_lt_t, p_lt_f, p_eq_t, p_eq_f, bd1_s, bd2_s, bd3_s, nm_s, gd_t, gd_in, gd_nz, gd_bz0, gd_bz1, gd_cp, a3, a4, c3, c4, ef, decide_eq_false q2, Bool.and_false, bI_f]))
  · (repeat (simp (disch := omega) only [li_0, li_1, li_2, li_3, li_4, li_5, li_6, li_7, li_8, li_9, li_10, li_11, li_12, li_13, li_14, li_15, li_16, li_17, li_18, li_19, li_20, li_21, li_22, li_23, li_24, li_25, li_26, li_27, li_28, li_29, li_30, li_31, li_32, li_34, li_35, li_40, li_41, li_45, li_48, li_49, li_50, li_57, li_58, li_59, li_60, li_61, li_64, li_65, li_97, li_99, li_100, li_115, li_116, li_121, li_122, li_200, li_255, li_256, li_300, li_999, li_1000, li_12345, li_65535, li_1103515245, if_true, if_false, nI_add, pk_mul, pk_sub, s_div, s_rem, s_cl, p_le_t, p_le_f, p_lt_t, p_lt_f, p_eq_t, p_eq_f, bd1_s, bd2_s, bd3_s, nm_s, gd_t, gd_in, gd_nz, gd_bz0, gd_bz1, gd_cp, a3, a4, c3, c4, ef, decide_eq_false q1, Bool.and_false, Bool.false_and, bI_f]))
theorem share_symm (n : Nat) (od : Nat → Nat) (i j : Nat) : shareN n od j i = shareN n od i j := by
  unfold shareN
  have e : (fun q => decide ((q + n - od (5 * j + 1)) % n < od (5 * j + 2)) && decide ((q + n - od (5 * i + 1)) % n < od (5 * i + 2))) = (fun q => decide ((q + n - od (5 * i + 1)) % n < od (5 * i + 2)) && decide ((q + n - od (5 * j + 1)) % n < od (5 * j + 2))) := funext (fun q => Bool.and_comm _ _)
  rw [e, Bool.and_assoc, Bool.and_assoc, Bool.and_comm (decide (od (5 * j + 3) ≤ od (5 * i + 4)))]
theorem m_may18 (h : LK n ns nt on sa sp od op starts paces oparts prices sqb cls ms mof) {σ j : Nat} (hs : σ < 256) (hj : j < on) (k6 : Int32 → Int32 → Option Int32) : ∀ (r i nn : Nat) (acc : Bool), i + r = j → r < nn → ∃ b : Bool, f_X9_mayBeLet_b18 (nI n) mof k6 (nI σ) (nI j) nn (bI acc) (nI i) = k6 (bI b) (nI (j + 1)) ∧ (b = true ↔ acc = true ∧ ¬ ∃ i', i ≤ i' ∧ i' < j ∧ (σ.testBit j = true ∧ σ.testBit i' = true ∧ shareN n od i' j = true)) := by
  obtain ⟨h1, h2, h3, h4, h5, h6, h7, h8⟩ := id h
  intro r
  induction r with
  | zero =>
    intro i nn acc hi hnn
    obtain ⟨m, rfl⟩ : ∃ m, nn = m + 1 := ⟨nn - 1, by omega⟩
    refine ⟨acc, ?_, ⟨fun e => ⟨e, ex_end (by omega)⟩, fun e => e.1⟩⟩
    rw [f_X9_mayBeLet_b18]
    (repeat (simp (disch := omega) only [li_0, li_1, li_2, li_3, li_4, li_5, li_6, li_7, li_8, li_9, li_10, li_11, li_12, li_13, li_14, li_15, li_16, li_17, li_18, li_19, li_20, li_21, li_22, li_23, li_24, li_25, li_26, li_27, li_28, li_29, li_30, li_31, li_32, li_34, li_35, li_40, li_41, li_45, li_48, li_49, li_50, li_57, li_58, li_59, li_60, li_61, li_64, li_65, li_97, li_99, li_100, li_115, li_116, li_121, li_122, li_200, li_255, li_256, li_300, li_999, li_1000, li_12345, li_65535, li_1103515245, if_true, if_false, nI_add, pk_mul, pk_sub, s_div, s_rem, s_cl, p_le_t, p_le_f, p_lt_t, p_lt_f, p_eq_t, p_eq_f, bd1_s, bd2_s, bd3_s, nm_s, gd_t, gd_in, gd_nz, gd_bz0, gd_bz1, gd_cp]))
  | succ r ih =>
    intro i nn acc hi hnn
    obtain ⟨m, rfl⟩ : ∃ m, nn = m + 1 := ⟨nn - 1, by omega⟩
    have ej := bitS (show σ < 2147483648 by omega) (show j < 31 by omega)
    have ei := bitS (show σ < 2147483648 by omega) (show i < 31 by omega)
    have ec := m_clash h hj (show i < on by omega)
    rw [share_symm] at ec
    have hst := ex_step (C := fun i' => σ.testBit j = true ∧ σ.testBit i' = true ∧ shareN n od i' j = true) (show i < j by omega)
    obtain ⟨bt, t1, t2⟩ := ih (i + 1) m true (by omega) (by omega)
    obtain ⟨bf, f1, f2⟩ := ih (i + 1) m false (by omega) (by omega)
    rw [bI_t] at t1
    rw [bI_f] at f1
    rw [f_X9_mayBeLet_b18]
    unfold f_X9_mayBeLet_b63 f_X9_mayBeLet_b59 f_X9_mayBeLet_b64
    cases acc with
    | false => exact ⟨bf, by (repeat (simp (disch := omega) only [li_0, li_1, li_2, li_3, li_4, li_5, li_6, li_7, li_8, li_9, li_10, li_11, li_12, li_13, li_14, li_15, li_16, li_17, li_18, li_19, li_20, li_21, li_22, li_23, li_24, li_25, li_26, li_27, li_28, li_29, li_30, li_31, li_32, li_34, li_35, li_40, li_41, li_45, li_48, li_49, li_50, li_57, li_58, li_59, li_60, li_61, li_64, li_65, li_97, li_99, li_100, li_115, li_116, li_121, li_122, li_200, li_255, li_256, li_300, li_999, li_1000, li_12345, li_65535, li_1103515245, if_true, if_false, nI_add, pk_mul, pk_sub, s_div, s_rem, s_cl, p_le_t, p_le_f, p_lt_t, p_lt_f, p_eq_t, p_eq_f, bd1_s, bd2_s, bd3_s, nm_s, gd_t, gd_in, gd_nz, gd_bz0, gd_bz1, gd_cp, bI_f, f1])), fin_ff f2⟩
    | true =>
      cases bj : σ.testBit j with
      | false =>
        rw [bj, bI_f] at ej
        refine ⟨bt, by (repeat (simp (disch := omega) only [li_0, li_1, li_2, li_3, li_4, li_5, li_6, li_7, li_8, li_9, li_10, li_11, li_12, li_13, li_14, li_15, li_16, li_17, li_18, li_19, li_20, li_21, li_22, li_23, li_24, li_25, li_26, li_27, li_28, li_29, li_30, li_31, li_32, li_34, li_35, li_40, li_41, li_45, li_48, li_49, li_50, li_57, li_58, li_59, li_60, li_61, li_64, li_65, li_97, li_99, li_100, li_115, li_116, li_121, li_122, li_200, li_255, li_256, li_300, li_999, li_1000, li_12345, li_65535, li_1103515245, if_true, if_false, nI_add, pk_mul, pk_sub, s_div, s_rem, s_cl, p_le_t, p_le_f, p_lt_t, p_lt_f, p_eq_t, p_eq_f, bd1_s, bd2_s, bd3_s, nm_s, gd_t, gd_in, gd_nz, gd_bz0, gd_bz1, gd_cp, bI_t, ej, t1])), ?_⟩
        rw [bj] at hst t2
        exact fin_no t2 hst (fun e => by cases e.1)
      | true =>
        rw [bj, bI_t] at ej
        rw [bj] at hst t2 f2
        cases bi : σ.testBit i with
        | false =>
          rw [bi, bI_f] at ei
          refine ⟨bt, by (repeat (simp (disch := omega) only [li_0, li_1, li_2, li_3, li_4, li_5, li_6, li_7, li_8, li_9, li_10, li_11, li_12, li_13, li_14, li_15, li_16, li_17, li_18, li_19, li_20, li_21, li_22, li_23, li_24, li_25, li_26, li_27, li_28, li_29, li_30, li_31, li_32, li_34, li_35, li_40, li_41, li_45, li_48, li_49, li_50, li_57, li_58, li_59, li_60, li_61, li_64, li_65, li_97, li_99, li_100, li_115, li_116, li_121, li_122, li_200, li_255, li_256, li_300, li_999, li_1000, li_12345, li_65535, li_1103515245, if_true, if_false, nI_add, pk_mul, pk_sub, s_div, s_rem, s_cl, p_le_t, p_le_f, p_lt_t, p_lt_f, p_eq_t, p_eq_f, bd1_s, bd2_s, bd3_s, nm_s, gd_t, gd_in, gd_nz, gd_bz0, gd_bz1, gd_cp, bI_t, ej, ei, t1])), fin_no t2 hst (fun e => ?_)⟩
          have := e.2.1
          rw [bi] at this
          cases this
        | true =>
          rw [bi, bI_t] at ei
          cases bs : shareN n od i j with
          | false =>
            rw [bs, bI_f] at ec
            refine ⟨bt, by (repeat (simp (disch := omega) only [li_0, li_1, li_2, li_3, li_4, li_5, li_6, li_7, li_8, li_9, li_10, li_11, li_12, li_13, li_14, li_15, li_16, li_17, li_18, li_19, li_20, li_21, li_22, li_23, li_24, li_25, li_26, li_27, li_28, li_29, li_30, li_31, li_32, li_34, li_35, li_40, li_41, li_45, li_48, li_49, li_50, li_57, li_58, li_59, li_60, li_61, li_64, li_65, li_97, li_99, li_100, li_115, li_116, li_121, li_122, li_200, li_255, li_256, li_300, li_999, li_1000, li_12345, li_65535, li_1103515245, if_true, if_false, nI_add, pk_mul, pk_sub, s_div, s_rem, s_cl, p_le_t, p_le_f, p_lt_t, p_lt_f, p_eq_t, p_eq_f, bd1_s, bd2_s, bd3_s, nm_s, gd_t, gd_in, gd_nz, gd_bz0, gd_bz1, gd_cp, bI_t, ej, ei, ec, t1])), fin_no t2 hst (fun e => ?_)⟩
            have := e.2.2
            rw [bs] at this
            cases this
          | true =>
            rw [bs, bI_t] at ec
            exact ⟨bf, by (repeat (simp (disch := omega) only [li_0, li_1, li_2, li_3, li_4, li_5, li_6, li_7, li_8, li_9, li_10, li_11, li_12, li_13, li_14, li_15, li_16, li_17, li_18, li_19, li_20, li_21, li_22, li_23, li_24, li_25, li_26, li_27, li_28, li_29, li_30, li_31, li_32, li_34, li_35, li_40, li_41, li_45, li_48, li_49, li_50, li_57, li_58, li_59, li_60, li_61, li_64, li_65, li_97, li_99, li_100, li_115, li_116, li_121, li_122, li_200, li_255, li_256, li_300, li_999, li_1000, li_12345, li_65535, li_1103515245, if_true, if_false, nI_add, pk_mul, pk_sub, s_div, s_rem, s_cl, p_le_t, p_le_f, p_lt_t, p_lt_f, p_eq_t, p_eq_f, bd1_s, bd2_s, bd3_s, nm_s, gd_t, gd_in, gd_nz, gd_bz0, gd_bz1, gd_cp, bI_t, ej, ei, ec, f1])), fin_yes f2 hst ⟨rfl, bi, bs⟩⟩
theorem m_may6 (h : LK n ns nt on sa sp od op starts paces oparts prices sqb cls ms mof) {σ : Nat} (hs : σ < 256) (x2 x3 : Int32) : ∀ (r j nn : Nat) (acc : Bool), j + r = on → r < nn → ∃ b : Bool, f_X9_mayBeLet_b6 (nI n) (nI ns) (nI nt) (nI on) mof ms (nI σ) x2 x3 nn (bI acc) (nI j) = f_X9_mayBeLet_b81 (nI n) (nI ns) (nI nt) (nI on) mof ms (nI σ) x3 zF (bI b) x2 ∧ (b = true ↔ acc = true ∧ ¬ ∃ j', j ≤ j' ∧ j' < on ∧ (∃ i', 0 ≤ i' ∧ i' < j' ∧ (σ.testBit j' = true ∧ σ.testBit i' = true ∧ shareN n od i' j' = true))) := by
  obtain ⟨h1, h2, h3, h4, h5, h6, h7, h8⟩ := id h
  intro r
  induction r with
  | zero =>
    intro j nn acc hj hnn
    obtain ⟨m, rfl⟩ : ∃ m, nn = m + 1 := ⟨nn - 1, by omega⟩
    refine ⟨acc, ?_, ⟨fun e => ⟨e, ex_end (by omega)⟩, fun e => e.1⟩⟩
    rw [f_X9_mayBeLet_b6]
    (repeat (simp (disch := omega) only [li_0, li_1, li_2, li_3, li_4, li_5, li_6, li_7, li_8, li_9, li_10, li_11, li_12, li_13, li_14, li_15, li_16, li_17, li_18, li_19, li_20, li_21, li_22, li_23, li_24, li_25, li_26, li_27, li_28, li_29, li_30, li_31, li_32, li_34, li_35, li_40, li_41, li_45, li_48, li_49, li_50, li_57, li_58, li_59, li_60, li_61, li_64, li_65, li_97, li_99, li_100, li_115, li_116, li_121, li_122, li_200, li_255, li_256, li_300, li_999, li_1000, li_12345, li_65535, li_1103515245, if_true, if_false, nI_add, pk_mul, pk_sub, s_div, s_rem, s_cl, p_le_t, p_le_f, p_lt_t, p_lt_f, p_eq_t, p_eq_f, bd1_s, bd2_s, bd3_s, nm_s, gd_t, gd_in, gd_nz, gd_bz0, gd_bz1, gd_cp]))
  | succ r ih =>
    intro j nn acc hj hnn
    obtain ⟨m, rfl⟩ : ∃ m, nn = m + 1 := ⟨nn - 1, by omega⟩
    have hst := ex_step (C := fun j' => ∃ i', 0 ≤ i' ∧ i' < j' ∧ (σ.testBit j' = true ∧ σ.testBit i' = true ∧ shareN n od i' j' = true)) (show j < on by omega)
    obtain ⟨b1, k1, k2⟩ := m_may18 h hs (show j < on by omega) (f_X9_mayBeLet_b6 (nI n) (nI ns) (nI nt) (nI on) mof ms (nI σ) x2 x3 m) j 0 zF acc (by omega) (by unfold zF; omega)
    obtain ⟨b, l1, l2⟩ := ih (j + 1) m b1 (by omega) (by omega)
    refine ⟨b, ?_, fin_2 l2 k2 hst⟩
    rw [f_X9_mayBeLet_b6]
    (repeat (simp (disch := omega) only [li_0, li_1, li_2, li_3, li_4, li_5, li_6, li_7, li_8, li_9, li_10, li_11, li_12, li_13, li_14, li_15, li_16, li_17, li_18, li_19, li_20, li_21, li_22, li_23, li_24, li_25, li_26, li_27, li_28, li_29, li_30, li_31, li_32, li_34, li_35, li_40, li_41, li_45, li_48, li_49, li_50, li_57, li_58, li_59, li_60, li_61, li_64, li_65, li_97, li_99, li_100, li_115, li_116, li_121, li_122, li_200, li_255, li_256, li_300, li_999, li_1000, li_12345, li_65535, li_1103515245, if_true, if_false, nI_add, pk_mul, pk_sub, s_div, s_rem, s_cl, p_le_t, p_le_f, p_lt_t, p_lt_f, p_eq_t, p_eq_f, bd1_s, bd2_s, bd3_s, nm_s, gd_t, gd_in, gd_nz, gd_bz0, gd_bz1, gd_cp, k1, l1]))
/-! stars of a tenant -/
theorem m_isOff (h : LK n ns nt on sa sp od op starts paces oparts prices sqb cls ms mof) {k d : Nat} (hk : k < on) (hd : d < 1000000) : f_X9_isOffered mof (nI k) (nI d) = some (bI (decide (od (5 * k + 3) ≤ d) && decide (d ≤ od (5 * k + 4)))) := by
  obtain ⟨h1, h2, h3, h4, h5, h6, h7, h8⟩ := id h
  obtain ⟨⟨o1, o2, o3, o4, o5, o6⟩, -, -, q4, -⟩ := h8 k hk
  have a3 := (q4 3 (by decide)).2
  have a4 := (q4 4 (by decide)).2
  unfold f_X9_isOffered
  rw [in_eq]
  unfold f_X8_isWithin
  by_cases c3 : od (5 * k + 3) ≤ d
  · by_cases c4 : d ≤ od (5 * k + 4)
    · (repeat (simp (disch := omega) only [li_0, li_1, li_2, li_3, li_4, li_5, li_6, li_7, li_8, li_9, li_10, li_11, li_12, li_13, li_14, li_15, li_16, li_17, li_18, li_19, li_20, li_21, li_22, li_23, li_24, li_25, li_26, li_27, li_28, li_29, li_30, li_31, li_32, li_34, li_35, li_40, li_41, li_45, li_48, li_49, li_50, li_57, li_58, li_59, li_60, li_61, li_64, li_65, li_97, li_99, li_100, li_115, li_116, li_121, li_122, li_200, li_255, li_256, li_300, li_999, li_1000, li_12345, li_65535, li_1103515245, if_true, if_false, nI_add, pk_mul, pk_sub, s_div, s_rem, s_cl, p_le_t, p_le_f, p_lt_t, p_lt_f, p_eq_t, p_eq_f, bd1_s, bd2_s, bd3_s, nm_s, gd_t, gd_in, gd_nz, gd_bz0, gd_bz1, gd_cp, a3, a4, decide_eq_true c3, decide_eq_true c4, Bool.and_self, bI_t]))
    · (repeat (simp (disch := omega) only [li_0, li_1, li_2, li_3, li_4, li_5, li_6, li_7, li_8, li_9, li_10, li_11, li_12, li_13, li_14, li_15, li_16, li_17, li_18, li_19, li_20, li_21, li_22, li_23, li_24, li_25, li_26, li_27, li_28, li_29, li_30, li_31, li_32, li_34, li_35, li_40, li_41, li_45, li_48, li_49, li_50, li_57, li_58, li_59, li_60, li_61, li_64, li_65, li_97, li_99, li_100, li_115, li_116, li_121, li_122, li_200, li_255, li_256, li_300, li_999, li_1000, li_12345, li_65535, li_1103515245, if_true, if_false, nI_add, pk_mul, pk_sub, s_div, s_rem, s_cl, p_le_t, p_le_f, p_lt_t, p_lt_f, p_eq_t, p_eq_f, bd1_s, bd2_s, bd3_s, nm_s, gd_t, gd_in, gd_nz, gd_bz0, gd_bz1, gd_cp, a3, a4, decide_eq_true c3, decide_eq_false c4, Bool.and_false, bI_f]))
  · (repeat (simp (disch := omega) only [li_0, li_1, li_2, li_3, li_4, li_5, li_6, li_7, li_8, li_9, li_10, li_11, li_12, li_13, li_14, li_15, li_16, li_17, li_18, li_19, li_20, li_21, li_22, li_23, li_24, li_25, li_26, li_27, li_28, li_29, li_30, li_31, li_32, li_34, li_35, li_40, li_41, li_45, li_48, li_49, li_50, li_57, li_58, li_59, li_60, li_61, li_64, li_65, li_97, li_99, li_100, li_115, li_116, li_121, li_122, li_200, li_255, li_256, li_300, li_999, li_1000, li_12345, li_65535, li_1103515245, if_true, if_false, nI_add, pk_mul, pk_sub, s_div, s_rem, s_cl, p_le_t, p_le_f, p_lt_t, p_lt_f, p_eq_t, p_eq_f, bd1_s, bd2_s, bd3_s, nm_s, gd_t, gd_in, gd_nz, gd_bz0, gd_bz1, gd_cp, a3, a4, decide_eq_false c3, Bool.false_and, bI_f]))
theorem m_hs58 (h : LK n ns nt on sa sp od op starts paces oparts prices sqb cls ms mof) {k d : Nat} (hk : k < on) (hd : d < 1000000) (k9 : Int32 → Int32 → Int32 → Option Int32) (x4 : Int32) : ∀ (r j nn : Nat) (acc : Bool), j + r = ns → r < nn → ∃ c : Bool, f_X9_hasStar_b58 (nI n) (nI ns) mof ms k9 (nI d) x4 (nI k) nn (bI acc) (nI j) = k9 x4 (bI c) (nI (k + 1)) ∧ (c = true ↔ acc = true ∨ ∃ j', j ≤ j' ∧ j' < ns ∧ inO n od k (sqN n (sa j') (sp j') d)) := by
  obtain ⟨h1, h2, h3, h4, h5, h6, h7, h8⟩ := id h
  intro r
  induction r with
  | zero =>
    intro j nn acc hj hnn
    obtain ⟨m, rfl⟩ : ∃ m, nn = m + 1 := ⟨nn - 1, by omega⟩
    refine ⟨acc, ?_, ⟨fun e => Or.inl e, fun e => e.elim id (fun e => absurd e (ex_end (by omega)))⟩⟩
    rw [f_X9_hasStar_b58]
    unfold f_X9_hasStar_b101
    (repeat (simp (disch := omega) only [li_0, li_1, li_2, li_3, li_4, li_5, li_6, li_7, li_8, li_9, li_10, li_11, li_12, li_13, li_14, li_15, li_16, li_17, li_18, li_19, li_20, li_21, li_22, li_23, li_24, li_25, li_26, li_27, li_28, li_29, li_30, li_31, li_32, li_34, li_35, li_40, li_41, li_45, li_48, li_49, li_50, li_57, li_58, li_59, li_60, li_61, li_64, li_65, li_97, li_99, li_100, li_115, li_116, li_121, li_122, li_200, li_255, li_256, li_300, li_999, li_1000, li_12345, li_65535, li_1103515245, if_true, if_false, nI_add, pk_mul, pk_sub, s_div, s_rem, s_cl, p_le_t, p_le_f, p_lt_t, p_lt_f, p_eq_t, p_eq_f, bd1_s, bd2_s, bd3_s, nm_s, gd_t, gd_in, gd_nz, gd_bz0, gd_bz1, gd_cp]))
  | succ r ih =>
    intro j nn acc hj hnn
    obtain ⟨m, rfl⟩ : ∃ m, nn = m + 1 := ⟨nn - 1, by omega⟩
    have e1 := (h7 j d (by omega) hd).2
    have hq := sqN_lt (n := n) (a := sa j) (p := sp j) (d := d) (h6 j (by omega))
    have e2 := m_offered h hk hq
    have hst := ex_step (C := fun j' => inO n od k (sqN n (sa j') (sp j') d)) (show j < ns by omega)
    obtain ⟨bt, t1, t2⟩ := ih (j + 1) m true (by omega) (by omega)
    obtain ⟨bf, f1, f2⟩ := ih (j + 1) m false (by omega) (by omega)
    rw [bI_t] at t1
    rw [bI_f] at f1
    rw [f_X9_hasStar_b58]
    unfold f_X9_hasStar_b88 f_X9_hasStar_b93
    cases acc with
    | true => exact ⟨bt, by (repeat (simp (disch := omega) only [li_0, li_1, li_2, li_3, li_4, li_5, li_6, li_7, li_8, li_9, li_10, li_11, li_12, li_13, li_14, li_15, li_16, li_17, li_18, li_19, li_20, li_21, li_22, li_23, li_24, li_25, li_26, li_27, li_28, li_29, li_30, li_31, li_32, li_34, li_35, li_40, li_41, li_45, li_48, li_49, li_50, li_57, li_58, li_59, li_60, li_61, li_64, li_65, li_97, li_99, li_100, li_115, li_116, li_121, li_122, li_200, li_255, li_256, li_300, li_999, li_1000, li_12345, li_65535, li_1103515245, if_true, if_false, nI_add, pk_mul, pk_sub, s_div, s_rem, s_cl, p_le_t, p_le_f, p_lt_t, p_lt_f, p_eq_t, p_eq_f, bd1_s, bd2_s, bd3_s, nm_s, gd_t, gd_in, gd_nz, gd_bz0, gd_bz1, gd_cp, bI_t, t1])), or_tt t2⟩
    | false =>
      by_cases c1 : inO n od k (sqN n (sa j) (sp j) d)
      · rw [decide_eq_true c1, bI_t] at e2
        exact ⟨bt, by (repeat (simp (disch := omega) only [li_0, li_1, li_2, li_3, li_4, li_5, li_6, li_7, li_8, li_9, li_10, li_11, li_12, li_13, li_14, li_15, li_16, li_17, li_18, li_19, li_20, li_21, li_22, li_23, li_24, li_25, li_26, li_27, li_28, li_29, li_30, li_31, li_32, li_34, li_35, li_40, li_41, li_45, li_48, li_49, li_50, li_57, li_58, li_59, li_60, li_61, li_64, li_65, li_97, li_99, li_100, li_115, li_116, li_121, li_122, li_200, li_255, li_256, li_300, li_999, li_1000, li_12345, li_65535, li_1103515245, if_true, if_false, nI_add, pk_mul, pk_sub, s_div, s_rem, s_cl, p_le_t, p_le_f, p_lt_t, p_lt_f, p_eq_t, p_eq_f, bd1_s, bd2_s, bd3_s, nm_s, gd_t, gd_in, gd_nz, gd_bz0, gd_bz1, gd_cp, bI_f, e1, e2, t1])), or_yes t2 hst c1⟩
      · rw [decide_eq_false c1, bI_f] at e2
        exact ⟨bf, by (repeat (simp (disch := omega) only [li_0, li_1, li_2, li_3, li_4, li_5, li_6, li_7, li_8, li_9, li_10, li_11, li_12, li_13, li_14, li_15, li_16, li_17, li_18, li_19, li_20, li_21, li_22, li_23, li_24, li_25, li_26, li_27, li_28, li_29, li_30, li_31, li_32, li_34, li_35, li_40, li_41, li_45, li_48, li_49, li_50, li_57, li_58, li_59, li_60, li_61, li_64, li_65, li_97, li_99, li_100, li_115, li_116, li_121, li_122, li_200, li_255, li_256, li_300, li_999, li_1000, li_12345, li_65535, li_1103515245, if_true, if_false, nI_add, pk_mul, pk_sub, s_div, s_rem, s_cl, p_le_t, p_le_f, p_lt_t, p_lt_f, p_eq_t, p_eq_f, bd1_s, bd2_s, bd3_s, nm_s, gd_t, gd_in, gd_nz, gd_bz0, gd_bz1, gd_cp, bI_f, e1, e2, f1])), or_no f2 hst c1⟩
theorem m_hs9 (h : LK n ns nt on sa sp od op starts paces oparts prices sqb cls ms mof) {σ t d : Nat} (hs : σ < 256) (ht : t < 4) (hd : d < 1000000) : ∀ (r k nn : Nat) (a4 a5 : Bool), k + r = on → r < nn → ∃ c : Bool, f_X9_hasStar_b9 (nI n) (nI ns) (nI on) mof ms (nI σ) (nI t) (nI d) nn (bI a4) (bI a5) (nI k) = some (bI c) ∧ (c = true ↔ ((a4 = true ∨ ∃ k', k ≤ k' ∧ k' < on ∧ Hd od σ k' t d) → (a5 = true ∨ ∃ k', k ≤ k' ∧ k' < on ∧ (Hd od σ k' t d ∧ ∃ j, 0 ≤ j ∧ j < ns ∧ inO n od k' (sqN n (sa j) (sp j) d))))) := by
  obtain ⟨h1, h2, h3, h4, h5, h6, h7, h8⟩ := id h
  intro r
  induction r with
  | zero =>
    intro k nn a4 a5 hk hnn
    obtain ⟨m, rfl⟩ : ∃ m, nn = m + 1 := ⟨nn - 1, by omega⟩
    refine ⟨!a4 || a5, ?_, ?_⟩
    · rw [f_X9_hasStar_b9]
      cases a4 <;> cases a5 <;> (repeat (simp (disch := omega) only [li_0, li_1, li_2, li_3, li_4, li_5, li_6, li_7, li_8, li_9, li_10, li_11, li_12, li_13, li_14, li_15, li_16, li_17, li_18, li_19, li_20, li_21, li_22, li_23, li_24, li_25, li_26, li_27, li_28, li_29, li_30, li_31, li_32, li_34, li_35, li_40, li_41, li_45, li_48, li_49, li_50, li_57, li_58, li_59, li_60, li_61, li_64, li_65, li_97, li_99, li_100, li_115, li_116, li_121, li_122, li_200, li_255, li_256, li_300, li_999, li_1000, li_12345, li_65535, li_1103515245, if_true, if_false, nI_add, pk_mul, pk_sub, s_div, s_rem, s_cl, p_le_t, p_le_f, p_lt_t, p_lt_f, p_eq_t, p_eq_f, bd1_s, bd2_s, bd3_s, nm_s, gd_t, gd_in, gd_nz, gd_bz0, gd_bz1, gd_cp, bI_t, bI_f, Bool.not_true, Bool.not_false, Bool.or_false, Bool.or_true]))
    · rw [or_iff_left (ex_end (by omega)), or_iff_left (ex_end (by omega))]
      cases a4 <;> cases a5 <;> simp
  | succ r ih =>
    intro k nn a4 a5 hk hnn
    obtain ⟨m, rfl⟩ : ∃ m, nn = m + 1 := ⟨nn - 1, by omega⟩
    obtain ⟨⟨o1, o2, o3, o4, o5, o6⟩, -, -, q4, -⟩ := h8 k (by omega)
    have e0 := (q4 0 (by decide)).2
    rw [Nat.add_zero, Nat.add_zero] at e0
    have eb := bitS (show σ < 2147483648 by omega) (show k < 31 by omega)
    have eo := m_isOff h (show k < on by omega) hd
    have hst1 := ex_step (C := fun k' => Hd od σ k' t d) (show k < on by omega)
    have hst2 := ex_step (C := fun k' => Hd od σ k' t d ∧ ∃ j, 0 ≤ j ∧ j < ns ∧ inO n od k' (sqN n (sa j) (sp j) d)) (show k < on by omega)
    obtain ⟨c0, i1, i2⟩ := ih (k + 1) m a4 a5 (by omega) (by omega)
    have hno : ¬ Hd od σ k t d → (c0 = true ↔ ((a4 = true ∨ ∃ k', k ≤ k' ∧ k' < on ∧ Hd od σ k' t d) → (a5 = true ∨ ∃ k', k ≤ k' ∧ k' < on ∧ (Hd od σ k' t d ∧ ∃ j, 0 ≤ j ∧ j < ns ∧ inO n od k' (sqN n (sa j) (sp j) d))))) := by
      intro hC
      have hC2 : ¬ (Hd od σ k t d ∧ ∃ j, 0 ≤ j ∧ j < ns ∧ inO n od k (sqN n (sa j) (sp j) d)) := fun e => hC e.1
      rw [i2, hst1, hst2, or_iff_right hC, or_iff_right hC2]
    rw [f_X9_hasStar_b9]
    unfold f_X9_hasStar_b101
    cases bk : σ.testBit k with
    | false =>
      rw [bk, bI_f] at eb
      refine ⟨c0, by (repeat (simp (disch := omega) only [li_0, li_1, li_2, li_3, li_4, li_5, li_6, li_7, li_8, li_9, li_10, li_11, li_12, li_13, li_14, li_15, li_16, li_17, li_18, li_19, li_20, li_21, li_22, li_23, li_24, li_25, li_26, li_27, li_28, li_29, li_30, li_31, li_32, li_34, li_35, li_40, li_41, li_45, li_48, li_49, li_50, li_57, li_58, li_59, li_60, li_61, li_64, li_65, li_97, li_99, li_100, li_115, li_116, li_121, li_122, li_200, li_255, li_256, li_300, li_999, li_1000, li_12345, li_65535, li_1103515245, if_true, if_false, nI_add, pk_mul, pk_sub, s_div, s_rem, s_cl, p_le_t, p_le_f, p_lt_t, p_lt_f, p_eq_t, p_eq_f, bd1_s, bd2_s, bd3_s, nm_s, gd_t, gd_in, gd_nz, gd_bz0, gd_bz1, gd_cp, eb, i1])), hno (fun e => ?_)⟩
      have := e.1
      rw [bk] at this
      cases this
    | true =>
      rw [bk, bI_t] at eb
      by_cases ct : od (5 * k) = t
      · by_cases c3 : od (5 * k + 3) ≤ d
        · by_cases c4 : d ≤ od (5 * k + 4)
          · rw [decide_eq_true c3, decide_eq_true c4, Bool.and_self, bI_t] at eo
            have hH : Hd od σ k t d := ⟨bk, ct, c3, c4⟩
            obtain ⟨c1, k1, k2⟩ := m_hs58 h (show k < on by omega) hd (f_X9_hasStar_b9 (nI n) (nI ns) (nI on) mof ms (nI σ) (nI t) (nI d) m) (nI 1) ns 0 zF a5 (by omega) (by unfold zF; omega)
            obtain ⟨c2, l1, l2⟩ := ih (k + 1) m true c1 (by omega) (by omega)
            rw [bI_t] at l1
            refine ⟨c2, by (repeat (simp (disch := omega) only [li_0, li_1, li_2, li_3, li_4, li_5, li_6, li_7, li_8, li_9, li_10, li_11, li_12, li_13, li_14, li_15, li_16, li_17, li_18, li_19, li_20, li_21, li_22, li_23, li_24, li_25, li_26, li_27, li_28, li_29, li_30, li_31, li_32, li_34, li_35, li_40, li_41, li_45, li_48, li_49, li_50, li_57, li_58, li_59, li_60, li_61, li_64, li_65, li_97, li_99, li_100, li_115, li_116, li_121, li_122, li_200, li_255, li_256, li_300, li_999, li_1000, li_12345, li_65535, li_1103515245, if_true, if_false, nI_add, pk_mul, pk_sub, s_div, s_rem, s_cl, p_le_t, p_le_f, p_lt_t, p_lt_f, p_eq_t, p_eq_f, bd1_s, bd2_s, bd3_s, nm_s, gd_t, gd_in, gd_nz, gd_bz0, gd_bz1, gd_cp, eb, e0, ct, eo, k1, l1])), ?_⟩
            rw [l2, k2, hst1, hst2]
            constructor
            · intro hh _
              rcases hh (Or.inl rfl) with (a | a) | a
              · exact Or.inl a
              · exact Or.inr (Or.inl ⟨hH, a⟩)
              · exact Or.inr (Or.inr a)
            · intro hh _
              rcases hh (Or.inr (Or.inl hH)) with a | a | a
              · exact Or.inl (Or.inl a)
              · exact Or.inl (Or.inr a.2)
              · exact Or.inr a
          · rw [decide_eq_false c4, Bool.and_false, bI_f] at eo
            exact ⟨c0, by (repeat (simp (disch := omega) only [li_0, li_1, li_2, li_3, li_4, li_5, li_6, li_7, li_8, li_9, li_10, li_11, li_12, li_13, li_14, li_15, li_16, li_17, li_18, li_19, li_20, li_21, li_22, li_23, li_24, li_25, li_26, li_27, li_28, li_29, li_30, li_31, li_32, li_34, li_35, li_40, li_41, li_45, li_48, li_49, li_50, li_57, li_58, li_59, li_60, li_61, li_64, li_65, li_97, li_99, li_100, li_115, li_116, li_121, li_122, li_200, li_255, li_256, li_300, li_999, li_1000, li_12345, li_65535, li_1103515245, if_true, if_false, nI_add, pk_mul, pk_sub, s_div, s_rem, s_cl, p_le_t, p_le_f, p_lt_t, p_lt_f, p_eq_t, p_eq_f, bd1_s, bd2_s, bd3_s, nm_s, gd_t, gd_in, gd_nz, gd_bz0, gd_bz1, gd_cp, eb, e0, ct, eo, i1])), hno (fun e => c4 e.2.2.2)⟩
        · rw [decide_eq_false c3, Bool.false_and, bI_f] at eo
          exact ⟨c0, by (repeat (simp (disch := omega) only [li_0, li_1, li_2, li_3, li_4, li_5, li_6, li_7, li_8, li_9, li_10, li_11, li_12, li_13, li_14, li_15, li_16, li_17, li_18, li_19, li_20, li_21, li_22, li_23, li_24, li_25, li_26, li_27, li_28, li_29, li_30, li_31, li_32, li_34, li_35, li_40, li_41, li_45, li_48, li_49, li_50, li_57, li_58, li_59, li_60, li_61, li_64, li_65, li_97, li_99, li_100, li_115, li_116, li_121, li_122, li_200, li_255, li_256, li_300, li_999, li_1000, li_12345, li_65535, li_1103515245, if_true, if_false, nI_add, pk_mul, pk_sub, s_div, s_rem, s_cl, p_le_t, p_le_f, p_lt_t, p_lt_f, p_eq_t, p_eq_f, bd1_s, bd2_s, bd3_s, nm_s, gd_t, gd_in, gd_nz, gd_bz0, gd_bz1, gd_cp, eb, e0, ct, eo, i1])), hno (fun e => c3 e.2.2.1)⟩
      · exact ⟨c0, by (repeat (simp (disch := omega) only [li_0, li_1, li_2, li_3, li_4, li_5, li_6, li_7, li_8, li_9, li_10, li_11, li_12, li_13, li_14, li_15, li_16, li_17, li_18, li_19, li_20, li_21, li_22, li_23, li_24, li_25, li_26, li_27, li_28, li_29, li_30, li_31, li_32, li_34, li_35, li_40, li_41, li_45, li_48, li_49, li_50, li_57, li_58, li_59, li_60, li_61, li_64, li_65, li_97, li_99, li_100, li_115, li_116, li_121, li_122, li_200, li_255, li_256, li_300, li_999, li_1000, li_12345, li_65535, li_1103515245, if_true, if_false, nI_add, pk_mul, pk_sub, s_div, s_rem, s_cl, p_le_t, p_le_f, p_lt_t, p_lt_f, p_eq_t, p_eq_f, bd1_s, bd2_s, bd3_s, nm_s, gd_t, gd_in, gd_nz, gd_bz0, gd_bz1, gd_cp, eb, e0, i1])), hno (fun e => ct e.2.1)⟩
theorem m_hasStar (h : LK n ns nt on sa sp od op starts paces oparts prices sqb cls ms mof) {σ t d : Nat} (hs : σ < 256) (ht : t < 4) (hd : d < 1000000) : ∃ c : Bool, f_X9_hasStar (nI n) (nI ns) (nI on) mof ms (nI σ) (nI t) (nI d) = some (bI c) ∧ (c = true ↔ HS n ns on sa sp od σ t d) := by
  have h5 := h.2.2.2.2.1
  obtain ⟨c, k1, k2⟩ := m_hs9 h hs ht hd on 0 zF false false (by omega) (by unfold zF; omega)
  refine ⟨c, k1, ?_⟩
  rw [k2, or_iff_right (by decide), or_iff_right (by decide)]
  exact Iff.rfl
theorem m_may95 (h : LK n ns nt on sa sp od op starts paces oparts prices sqb cls ms mof) {σ d : Nat} (hs : σ < 256) (hd : d < 1000000) (k81 : Int32 → Int32 → Option Int32) : ∀ (r t nn : Nat) (acc : Bool), t + r = nt → r < nn → ∃ b : Bool, f_X9_mayBeLet_b95 (nI n) (nI ns) (nI nt) (nI on) mof ms k81 (nI σ) (nI d) nn (bI acc) (nI t) = k81 (bI b) (nI (d + 1)) ∧ (b = true ↔ acc = true ∧ ¬ ∃ t', t ≤ t' ∧ t' < nt ∧ ¬ HS n ns on sa sp od σ t' d) := by
  obtain ⟨h1, h2, h3, h4, h5, h6, h7, h8⟩ := id h
  intro r
  induction r with
  | zero =>
    intro t nn acc ht hnn
    obtain ⟨m, rfl⟩ : ∃ m, nn = m + 1 := ⟨nn - 1, by omega⟩
    refine ⟨acc, ?_, ⟨fun e => ⟨e, ex_end (by omega)⟩, fun e => e.1⟩⟩
    rw [f_X9_mayBeLet_b95]
    (repeat (simp (disch := omega) only [li_0, li_1, li_2, li_3, li_4, li_5, li_6, li_7, li_8, li_9, li_10, li_11, li_12, li_13, li_14, li_15, li_16, li_17, li_18, li_19, li_20, li_21, li_22, li_23, li_24, li_25, li_26, li_27, li_28, li_29, li_30, li_31, li_32, li_34, li_35, li_40, li_41, li_45, li_48, li_49, li_50, li_57, li_58, li_59, li_60, li_61, li_64, li_65, li_97, li_99, li_100, li_115, li_116, li_121, li_122, li_200, li_255, li_256, li_300, li_999, li_1000, li_12345, li_65535, li_1103515245, if_true, if_false, nI_add, pk_mul, pk_sub, s_div, s_rem, s_cl, p_le_t, p_le_f, p_lt_t, p_lt_f, p_eq_t, p_eq_f, bd1_s, bd2_s, bd3_s, nm_s, gd_t, gd_in, gd_nz, gd_bz0, gd_bz1, gd_cp]))
  | succ r ih =>
    intro t nn acc ht hnn
    obtain ⟨m, rfl⟩ : ∃ m, nn = m + 1 := ⟨nn - 1, by omega⟩
    have hst := ex_step (C := fun t' => ¬ HS n ns on sa sp od σ t' d) (show t < nt by omega)
    obtain ⟨c, c1, c2⟩ := m_hasStar h hs (show t < 4 by omega) hd
    obtain ⟨bt, t1, t2⟩ := ih (t + 1) m true (by omega) (by omega)
    obtain ⟨bf, f1, f2⟩ := ih (t + 1) m false (by omega) (by omega)
    rw [bI_t] at t1
    rw [bI_f] at f1
    rw [f_X9_mayBeLet_b95]
    unfold f_X9_mayBeLet_b125 f_X9_mayBeLet_b126
    cases acc with
    | false => exact ⟨bf, by (repeat (simp (disch := omega) only [li_0, li_1, li_2, li_3, li_4, li_5, li_6, li_7, li_8, li_9, li_10, li_11, li_12, li_13, li_14, li_15, li_16, li_17, li_18, li_19, li_20, li_21, li_22, li_23, li_24, li_25, li_26, li_27, li_28, li_29, li_30, li_31, li_32, li_34, li_35, li_40, li_41, li_45, li_48, li_49, li_50, li_57, li_58, li_59, li_60, li_61, li_64, li_65, li_97, li_99, li_100, li_115, li_116, li_121, li_122, li_200, li_255, li_256, li_300, li_999, li_1000, li_12345, li_65535, li_1103515245, if_true, if_false, nI_add, pk_mul, pk_sub, s_div, s_rem, s_cl, p_le_t, p_le_f, p_lt_t, p_lt_f, p_eq_t, p_eq_f, bd1_s, bd2_s, bd3_s, nm_s, gd_t, gd_in, gd_nz, gd_bz0, gd_bz1, gd_cp, bI_f, f1])), fin_ff f2⟩
    | true =>
      cases c with
      | false =>
        rw [bI_f] at c1
        exact ⟨bf, by (repeat (simp (disch := omega) only [li_0, li_1, li_2, li_3, li_4, li_5, li_6, li_7, li_8, li_9, li_10, li_11, li_12, li_13, li_14, li_15, li_16, li_17, li_18, li_19, li_20, li_21, li_22, li_23, li_24, li_25, li_26, li_27, li_28, li_29, li_30, li_31, li_32, li_34, li_35, li_40, li_41, li_45, li_48, li_49, li_50, li_57, li_58, li_59, li_60, li_61, li_64, li_65, li_97, li_99, li_100, li_115, li_116, li_121, li_122, li_200, li_255, li_256, li_300, li_999, li_1000, li_12345, li_65535, li_1103515245, if_true, if_false, nI_add, pk_mul, pk_sub, s_div, s_rem, s_cl, p_le_t, p_le_f, p_lt_t, p_lt_f, p_eq_t, p_eq_f, bd1_s, bd2_s, bd3_s, nm_s, gd_t, gd_in, gd_nz, gd_bz0, gd_bz1, gd_cp, bI_t, c1, f1])), fin_yes f2 hst (fun e => by cases c2.mpr e)⟩
      | true =>
        rw [bI_t] at c1
        exact ⟨bt, by (repeat (simp (disch := omega) only [li_0, li_1, li_2, li_3, li_4, li_5, li_6, li_7, li_8, li_9, li_10, li_11, li_12, li_13, li_14, li_15, li_16, li_17, li_18, li_19, li_20, li_21, li_22, li_23, li_24, li_25, li_26, li_27, li_28, li_29, li_30, li_31, li_32, li_34, li_35, li_40, li_41, li_45, li_48, li_49, li_50, li_57, li_58, li_59, li_60, li_61, li_64, li_65, li_97, li_99, li_100, li_115, li_116, li_121, li_122, li_200, li_255, li_256, li_300, li_999, li_1000, li_12345, li_65535, li_1103515245, if_true, if_false, nI_add, pk_mul, pk_sub, s_div, s_rem, s_cl, p_le_t, p_le_f, p_lt_t, p_lt_f, p_eq_t, p_eq_f, bd1_s, bd2_s, bd3_s, nm_s, gd_t, gd_in, gd_nz, gd_bz0, gd_bz1, gd_cp, bI_t, c1, t1])), fin_no t2 hst (fun e => e (c2.mp rfl))⟩
theorem m_may81 (h : LK n ns nt on sa sp od op starts paces oparts prices sqb cls ms mof) {σ b : Nat} (hs : σ < 256) (hb : b ≤ 99) : ∀ (r d nn : Nat) (acc : Bool), d + r = b + 1 → r < nn → ∃ c : Bool, f_X9_mayBeLet_b81 (nI n) (nI ns) (nI nt) (nI on) mof ms (nI σ) (nI b) nn (bI acc) (nI d) = some (bI c) ∧ (c = true ↔ acc = true ∧ ¬ ∃ d', d ≤ d' ∧ d' < b + 1 ∧ ∃ t', 0 ≤ t' ∧ t' < nt ∧ ¬ HS n ns on sa sp od σ t' d') := by
  obtain ⟨h1, h2, h3, h4, h5, h6, h7, h8⟩ := id h
  intro r
  induction r with
  | zero =>
    intro d nn acc hd hnn
    obtain ⟨m, rfl⟩ : ∃ m, nn = m + 1 := ⟨nn - 1, by omega⟩
    refine ⟨acc, ?_, ⟨fun e => ⟨e, ex_end (by omega)⟩, fun e => e.1⟩⟩
    rw [f_X9_mayBeLet_b81]
    (repeat (simp (disch := omega) only [li_0, li_1, li_2, li_3, li_4, li_5, li_6, li_7, li_8, li_9, li_10, li_11, li_12, li_13, li_14, li_15, li_16, li_17, li_18, li_19, li_20, li_21, li_22, li_23, li_24, li_25, li_26, li_27, li_28, li_29, li_30, li_31, li_32, li_34, li_35, li_40, li_41, li_45, li_48, li_49, li_50, li_57, li_58, li_59, li_60, li_61, li_64, li_65, li_97, li_99, li_100, li_115, li_116, li_121, li_122, li_200, li_255, li_256, li_300, li_999, li_1000, li_12345, li_65535, li_1103515245, if_true, if_false, nI_add, pk_mul, pk_sub, s_div, s_rem, s_cl, p_le_t, p_le_f, p_lt_t, p_lt_f, p_eq_t, p_eq_f, bd1_s, bd2_s, bd3_s, nm_s, gd_t, gd_in, gd_nz, gd_bz0, gd_bz1, gd_cp, gd_bzI]))
  | succ r ih =>
    intro d nn acc hd hnn
    obtain ⟨m, rfl⟩ : ∃ m, nn = m + 1 := ⟨nn - 1, by omega⟩
    have hst := ex_step (C := fun d' => ∃ t', 0 ≤ t' ∧ t' < nt ∧ ¬ HS n ns on sa sp od σ t' d') (show d < b + 1 by omega)
    rw [f_X9_mayBeLet_b81]
    cases acc with
    | false => exact ⟨false, by (repeat (simp (disch := omega) only [li_0, li_1, li_2, li_3, li_4, li_5, li_6, li_7, li_8, li_9, li_10, li_11, li_12, li_13, li_14, li_15, li_16, li_17, li_18, li_19, li_20, li_21, li_22, li_23, li_24, li_25, li_26, li_27, li_28, li_29, li_30, li_31, li_32, li_34, li_35, li_40, li_41, li_45, li_48, li_49, li_50, li_57, li_58, li_59, li_60, li_61, li_64, li_65, li_97, li_99, li_100, li_115, li_116, li_121, li_122, li_200, li_255, li_256, li_300, li_999, li_1000, li_12345, li_65535, li_1103515245, if_true, if_false, nI_add, pk_mul, pk_sub, s_div, s_rem, s_cl, p_le_t, p_le_f, p_lt_t, p_lt_f, p_eq_t, p_eq_f, bd1_s, bd2_s, bd3_s, nm_s, gd_t, gd_in, gd_nz, gd_bz0, gd_bz1, gd_cp, bI_f])), ⟨fun e => (by cases e), fun e => e.1⟩⟩
    | true =>
      obtain ⟨b1, k1, k2⟩ := m_may95 h hs (show d < 1000000 by omega) (f_X9_mayBeLet_b81 (nI n) (nI ns) (nI nt) (nI on) mof ms (nI σ) (nI b) m) nt 0 zF true (by omega) (by unfold zF; omega)
      obtain ⟨c, l1, l2⟩ := ih (d + 1) m b1 (by omega) (by omega)
      rw [bI_t] at k1
      exact ⟨c, by (repeat (simp (disch := omega) only [li_0, li_1, li_2, li_3, li_4, li_5, li_6, li_7, li_8, li_9, li_10, li_11, li_12, li_13, li_14, li_15, li_16, li_17, li_18, li_19, li_20, li_21, li_22, li_23, li_24, li_25, li_26, li_27, li_28, li_29, li_30, li_31, li_32, li_34, li_35, li_40, li_41, li_45, li_48, li_49, li_50, li_57, li_58, li_59, li_60, li_61, li_64, li_65, li_97, li_99, li_100, li_115, li_116, li_121, li_122, li_200, li_255, li_256, li_300, li_999, li_1000, li_12345, li_65535, li_1103515245, if_true, if_false, nI_add, pk_mul, pk_sub, s_div, s_rem, s_cl, p_le_t, p_le_f, p_lt_t, p_lt_f, p_eq_t, p_eq_f, bd1_s, bd2_s, bd3_s, nm_s, gd_t, gd_in, gd_nz, gd_bz0, gd_bz1, gd_cp, bI_t, k1, l1])), fin_2 l2 k2 hst⟩
def clashP (n on : Nat) (od : Nat → Nat) (σ : Nat) : Prop := ∃ j', 0 ≤ j' ∧ j' < on ∧ (∃ i', 0 ≤ i' ∧ i' < j' ∧ (σ.testBit j' = true ∧ σ.testBit i' = true ∧ shareN n od i' j' = true))
def darkP (n ns nt on : Nat) (sa sp od : Nat → Nat) (σ a b : Nat) : Prop := ∃ d', a ≤ d' ∧ d' < b + 1 ∧ ∃ t', 0 ≤ t' ∧ t' < nt ∧ ¬ HS n ns on sa sp od σ t' d'
theorem m_mayBe (h : LK n ns nt on sa sp od op starts paces oparts prices sqb cls ms mof) {σ a b : Nat} (hs : σ < 256) (hab : a ≤ b) (hb : b ≤ 99) : ∃ c : Bool, f_X9_mayBeLet (nI n) (nI ns) (nI nt) (nI on) mof ms (nI σ) (nI a) (nI b) = some (bI c) ∧ (c = true ↔ ¬ clashP n on od σ ∧ ¬ darkP n ns nt on sa sp od σ a b) := by
  have h5 := h.2.2.2.2.1
  obtain ⟨b1, k1, k2⟩ := m_may6 h hs (nI a) (nI b) on 0 zF true (by omega) (by unfold zF; omega)
  obtain ⟨c, l1, l2⟩ := m_may81 h hs hb (b + 1 - a) a zF b1 (by omega) (by unfold zF; omega)
  rw [bI_t] at k1
  refine ⟨c, ?_, ?_⟩
  · unfold f_X9_mayBeLet
    (repeat (simp (disch := omega) only [li_0, li_1, li_2, li_3, li_4, li_5, li_6, li_7, li_8, li_9, li_10, li_11, li_12, li_13, li_14, li_15, li_16, li_17, li_18, li_19, li_20, li_21, li_22, li_23, li_24, li_25, li_26, li_27, li_28, li_29, li_30, li_31, li_32, li_34, li_35, li_40, li_41, li_45, li_48, li_49, li_50, li_57, li_58, li_59, li_60, li_61, li_64, li_65, li_97, li_99, li_100, li_115, li_116, li_121, li_122, li_200, li_255, li_256, li_300, li_999, li_1000, li_12345, li_65535, li_1103515245, if_true, if_false, nI_add, pk_mul, pk_sub, s_div, s_rem, s_cl, p_le_t, p_le_f, p_lt_t, p_lt_f, p_eq_t, p_eq_f, bd1_s, bd2_s, bd3_s, nm_s, gd_t, gd_in, gd_nz, gd_bz0, gd_bz1, gd_cp, k1, l1]))
  · rw [l2, k2]
    exact ⟨fun e => ⟨e.1.2, e.2⟩, fun e => ⟨⟨rfl, e.1⟩, e.2⟩⟩
theorem x_clW (h : LK n ns nt on sa sp od op starts paces oparts prices sqb cls ms mof) {σ : Nat} (hs : σ < 256) : ∃ b : Bool, f_X1_clashesWithin (nI on) cls (nI σ) = some (bI b) ∧ (b = true ↔ clashP n on od σ) := by
  have h5 := h.2.2.2.2.1
  obtain ⟨b, k1, k2⟩ := x_cl2 h hs on 0 zF (by omega) (by unfold zF; omega)
  refine ⟨b, k1, ?_⟩
  rw [k2, or_iff_right (by decide)]
  exact Iff.rfl
end LT
