/-! odds -/
def sumF (f : Nat → Nat) : Nat → Nat → Nat
  | 0, _ => 0
  | r + 1, c => f c + sumF f r (c + 1)
theorem sumF_congr {f g : Nat → Nat} : ∀ r c, (∀ x, c ≤ x → x < c + r → f x = g x) → sumF f r c = sumF g r c := by
  intro r
  induction r with
  | zero => intro c _; rfl
  | succ r ih =>
    intro c h
    rw [sumF, sumF, h c (Nat.le_refl c) (by omega), ih (c + 1) (fun x h1 h2 => h x (by omega) (by omega))]
theorem sumF_add {f : Nat → Nat} : ∀ r1 r2 c, sumF f (r1 + r2) c = sumF f r1 c + sumF f r2 (c + r1) := by
  intro r1
  induction r1 with
  | zero => intro r2 c; rw [Nat.zero_add, sumF, Nat.zero_add, Nat.add_zero]
  | succ r ih =>
    intro r2 c
    rw [show r + 1 + r2 = (r + r2) + 1 by omega, sumF, sumF, ih, show c + 1 + r = c + (r + 1) by omega, Nat.add_assoc]
theorem sumF_shift {f : Nat → Nat} (e : Nat) : ∀ r c, sumF f r (e + c) = sumF (fun y => f (e + y)) r c := by
  intro r
  induction r with
  | zero => intro c; rfl
  | succ r ih =>
    intro c
    rw [sumF, sumF, ← ih, Nat.add_assoc]
theorem sumF_block {f : Nat → Nat} (M : Nat) : ∀ a b, sumF f (a * M) (b * M) = sumF (fun c => sumF (fun y => f (c * M + y)) M 0) a b := by
  intro a
  induction a with
  | zero => intro b; rw [Nat.zero_mul]; rfl
  | succ a ih =>
    intro b
    have e1 := sumF_shift (f := f) (b * M) M 0
    rw [Nat.add_zero] at e1
    rw [show (a + 1) * M = M + a * M by rw [Nat.add_mul, Nat.one_mul, Nat.add_comm], sumF_add, show b * M + M = (b + 1) * M by rw [Nat.add_mul, Nat.one_mul], ih, sumF, e1]
theorem sumF_le {f : Nat → Nat} {B : Nat} (h : ∀ c, f c ≤ B) : ∀ r c, sumF f r c ≤ B * r := by
  intro r
  induction r with
  | zero => intro c; exact Nat.zero_le _
  | succ r ih =>
    intro c
    have h1 := h c
    have h2 := ih (c + 1)
    rw [sumF, Nat.mul_succ]
    omega
/-- how many ways bring k or more, with s brought already -/
def wayN (k n : Nat) (R : Nat → Nat → Nat) : Nat → Nat → Nat
  | 0, s => if k ≤ s then 1 else 0
  | m + 1, s => sumF (fun c => wayN k n R m (s + R m c)) n 0
def digs (n : Nat) (R : Nat → Nat → Nat) : Nat → Nat → Nat → Nat
  | 0, _, _ => 0
  | r + 1, i, y => R i (y % n) + digs n R r (i + 1) (y / n)
theorem digs_split {n : Nat} (hn : 0 < n) (R : Nat → Nat → Nat) {c : Nat} (hc : c < n) : ∀ m i y, y < n ^ m → digs n R (m + 1) i (c * n ^ m + y) = digs n R m i y + R (i + m) c := by
  intro m
  induction m with
  | zero =>
    intro i y hy
    rw [Nat.pow_zero] at hy ⊢
    have hy0 : y = 0 := by omega
    subst hy0
    rw [digs, digs, digs, Nat.mul_one, Nat.add_zero, Nat.add_zero, Nat.mod_eq_of_lt hc, Nat.zero_add, Nat.add_zero]
  | succ m ih =>
    intro i y hy
    have hy2 : y / n < n ^ m := by
      rw [Nat.div_lt_iff_lt_mul hn]
      rw [Nat.pow_succ] at hy
      exact hy
    have e1 : c * n ^ (m + 1) + y = y + n * (c * n ^ m) := by
      rw [Nat.pow_succ, Nat.add_comm, ← Nat.mul_assoc, Nat.mul_comm n]
    rw [digs, e1, Nat.add_mul_mod_self_left, Nat.add_mul_div_left _ _ hn, Nat.add_comm (y / n), ih (i + 1) (y / n) hy2]
    rw [digs, show i + 1 + m = i + (m + 1) by omega, Nat.add_assoc]
theorem way_count {n : Nat} (hn : 0 < n) (k : Nat) (R : Nat → Nat → Nat) : ∀ m s, sumF (fun x => if k ≤ s + digs n R m 0 x then 1 else 0) (n ^ m) 0 = wayN k n R m s := by
  intro m
  induction m with
  | zero =>
    intro s
    rw [Nat.pow_zero, wayN, sumF, sumF, digs]
    rfl
  | succ m ih =>
    intro s
    have hb := sumF_block (f := fun x => if k ≤ s + digs n R (m + 1) 0 x then 1 else 0) (n ^ m) n 0
    rw [Nat.zero_mul] at hb
    rw [Nat.pow_succ, Nat.mul_comm, hb, wayN]
    apply sumF_congr
    intro c _ hc
    rw [← ih (s + R m c)]
    apply sumF_congr
    intro y _ hy
    rw [digs_split hn R (by omega) m 0 y (by omega), Nat.zero_add, show s + (digs n R m 0 y + R m c) = s + R m c + digs n R m 0 y by omega]
theorem way_le {k n : Nat} (hn : n ≤ 8) (R : Nat → Nat → Nat) : ∀ m s, wayN k n R m s ≤ 8 ^ m := by
  intro m
  induction m with
  | zero =>
    intro s
    rw [wayN]
    by_cases h : k ≤ s
    · rw [if_pos h]; decide
    · rw [if_neg h]; decide
  | succ m ih =>
    intro s
    rw [wayN, Nat.pow_succ]
    exact Nat.le_trans (sumF_le (B := 8 ^ m) (fun c => ih _) n 0) (Nat.mul_le_mul_left _ hn)
theorem bri_le {n ns cnt : Nat} {ld sa sp sb : Nat → Nat} {d c t : Nat} (hb : ∀ j, j < ns → sb j ≤ 9) : ∀ r j, j + r ≤ ns → bri n cnt ld sa sp sb d c t r j ≤ 9 * r := by
  intro r
  induction r with
  | zero => intro j _; exact Nat.le_refl 0
  | succ r ih =>
    intro j hj
    have h1 := ih (j + 1) (by omega)
    have h2 := hb j (by omega)
    rw [bri]
    by_cases c1 : sqN n (sa j) (sp j) d = c
    · rw [if_pos c1]; omega
    · rw [if_neg c1]
      by_cases c2 : own n ld (sqN n (sa j) (sp j) d) d cnt 0 = nI t
      · rw [if_pos c2]; omega
      · rw [if_neg c2]; omega
theorem m_rent6 {n ns nt cnt : Nat} {sa sp sb ld : Nat → Nat} {sq st te : Int32} {starts paces brights : Nat → Int32} {msq mst mte : Int32} {ms : Nat → Int32} {lsize : Int32} {lp s : Nat → Int32} (hS : gS n ns nt sa sp sb sq st te starts paces brights msq mst mte ms) (hL : gL n nt cnt ld lsize lp s) {d c t : Nat} (hd : d < 1000000) (hc : c < n) : ∀ (r j nn a : Nat), j + r = ns → r < nn → f_X9_rentOf_b6 (nI n) (nI ns) ms s (nI t) (nI d) (nI c) nn (nI a) (nI j) = some (nI (a + bri n cnt ld sa sp sb d c t r j)) := by
  obtain ⟨b1, b2, b3, b4, -, -, -, -, -, -, hst⟩ := id hS
  intro r
  induction r with
  | zero =>
    intro j nn a hj hnn
    obtain ⟨m, rfl⟩ : ∃ m, nn = m + 1 := ⟨nn - 1, by omega⟩
    rw [f_X9_rentOf_b6, bri]
    (repeat (simp (disch := omega) only [li_0, li_1, li_2, li_3, li_4, li_5, li_6, li_7, li_8, li_9, li_10, li_11, li_12, li_13, li_14, li_15, li_16, li_17, li_18, li_19, li_20, li_21, li_22, li_23, li_24, li_25, li_26, li_27, li_28, li_29, li_30, li_31, li_32, li_34, li_35, li_40, li_41, li_45, li_48, li_49, li_50, li_57, li_58, li_59, li_60, li_61, li_64, li_65, li_97, li_99, li_100, li_115, li_116, li_121, li_122, li_200, li_255, li_256, li_300, li_999, li_1000, li_12345, li_65535, li_1103515245, if_true, if_false, nI_add, pk_mul, pk_sub, s_div, s_rem, s_cl, p_le_t, p_le_f, p_lt_t, p_lt_f, p_eq_t, p_eq_f, bd1_s, bd2_s, bd3_s, nm_s, gd_t, gd_in, gd_nz, gd_bz0, gd_bz1, gd_cp, Nat.add_zero]))
  | succ r ih =>
    intro j nn a hj hnn
    obtain ⟨m, rfl⟩ : ∃ m, nn = m + 1 := ⟨nn - 1, by omega⟩
    obtain ⟨a1, a2, a3, a4, a5, a6, a7, a8, a9, a10⟩ := hst j (by omega)
    have e1 := m_squareOf hS (show j < ns by omega) hd
    have hq := sqN_lt (n := n) (a := sa j) (p := sp j) (d := d) a1
    have e2 := m_whoseIs b2 hL hq hd
    have i0 := ih (j + 1) m a (by omega) (by omega)
    have i1 := ih (j + 1) m (a + sb j) (by omega) (by omega)
    rw [f_X9_rentOf_b6, bri]
    unfold f_X9_rentOf_b57 f_X9_rentOf_b58
    by_cases h1 : sqN n (sa j) (sp j) d = c
    · rw [if_pos h1]
      (repeat (simp (disch := omega) only [li_0, li_1, li_2, li_3, li_4, li_5, li_6, li_7, li_8, li_9, li_10, li_11, li_12, li_13, li_14, li_15, li_16, li_17, li_18, li_19, li_20, li_21, li_22, li_23, li_24, li_25, li_26, li_27, li_28, li_29, li_30, li_31, li_32, li_34, li_35, li_40, li_41, li_45, li_48, li_49, li_50, li_57, li_58, li_59, li_60, li_61, li_64, li_65, li_97, li_99, li_100, li_115, li_116, li_121, li_122, li_200, li_255, li_256, li_300, li_999, li_1000, li_12345, li_65535, li_1103515245, if_true, if_false, nI_add, pk_mul, pk_sub, s_div, s_rem, s_cl, p_le_t, p_le_f, p_lt_t, p_lt_f, p_eq_t, p_eq_f, bd1_s, bd2_s, bd3_s, nm_s, gd_t, gd_in, gd_nz, gd_bz0, gd_bz1, gd_cp, e1, Nat.add_zero, i0, Nat.zero_add]))
    · rw [if_neg h1]
      by_cases h2 : own n ld (sqN n (sa j) (sp j) d) d cnt 0 = nI t
      · rw [if_pos h2]
        (repeat (simp (disch := omega) only [li_0, li_1, li_2, li_3, li_4, li_5, li_6, li_7, li_8, li_9, li_10, li_11, li_12, li_13, li_14, li_15, li_16, li_17, li_18, li_19, li_20, li_21, li_22, li_23, li_24, li_25, li_26, li_27, li_28, li_29, li_30, li_31, li_32, li_34, li_35, li_40, li_41, li_45, li_48, li_49, li_50, li_57, li_58, li_59, li_60, li_61, li_64, li_65, li_97, li_99, li_100, li_115, li_116, li_121, li_122, li_200, li_255, li_256, li_300, li_999, li_1000, li_12345, li_65535, li_1103515245, if_true, if_false, nI_add, pk_mul, pk_sub, s_div, s_rem, s_cl, p_le_t, p_le_f, p_lt_t, p_lt_f, p_eq_t, p_eq_f, bd1_s, bd2_s, bd3_s, nm_s, gd_t, gd_in, gd_nz, gd_bz0, gd_bz1, gd_cp, e1, e2, h2, a10, i1, Nat.add_assoc]))
      · rw [if_neg h2]
        (repeat (simp (disch := omega) only [li_0, li_1, li_2, li_3, li_4, li_5, li_6, li_7, li_8, li_9, li_10, li_11, li_12, li_13, li_14, li_15, li_16, li_17, li_18, li_19, li_20, li_21, li_22, li_23, li_24, li_25, li_26, li_27, li_28, li_29, li_30, li_31, li_32, li_34, li_35, li_40, li_41, li_45, li_48, li_49, li_50, li_57, li_58, li_59, li_60, li_61, li_64, li_65, li_97, li_99, li_100, li_115, li_116, li_121, li_122, li_200, li_255, li_256, li_300, li_999, li_1000, li_12345, li_65535, li_1103515245, if_true, if_false, nI_add, pk_mul, pk_sub, s_div, s_rem, s_cl, p_le_t, p_le_f, p_lt_t, p_lt_f, p_eq_t, p_eq_f, bd1_s, bd2_s, bd3_s, nm_s, gd_t, gd_in, gd_nz, gd_bz0, gd_bz1, gd_cp, e1, e2, h2, Nat.add_zero, i0, Nat.zero_add]))
theorem m_rentOf {n ns nt cnt : Nat} {sa sp sb ld : Nat → Nat} {sq st te : Int32} {starts paces brights : Nat → Int32} {msq mst mte : Int32} {ms : Nat → Int32} {lsize : Int32} {lp s : Nat → Int32} (hS : gS n ns nt sa sp sb sq st te starts paces brights msq mst mte ms) (hL : gL n nt cnt ld lsize lp s) {d c t : Nat} (hd : d < 1000000) (hc : c < n) : f_X9_rentOf (nI n) (nI ns) ms s (nI t) (nI d) (nI c) = some (nI (bri n cnt ld sa sp sb d c t ns 0)) := by
  have h := m_rent6 hS hL (t := t) hd hc ns 0 zF 0 (by omega) (by have := hS.2.2.1; unfold zF; omega)
  rw [Nat.zero_add] at h
  exact h
theorem lt0_t {k s : Nat} (h : s < k) (hk : k < 1000000) : (nI 0 < nI k - nI s) = True := by
  rw [pk_sub (by omega)]
  exact eq_true (nI_lt (by omega) (by omega))
theorem lt0_f {k s : Nat} (h : k ≤ s) (hs : s < 1000000) : (nI 0 < nI k - nI s) = False := by
  apply eq_false
  intro e
  rw [Int32.lt_iff_toInt_lt, pk_sub_toInt (by omega) (by omega)] at e
  have e0 : (nI 0).toInt = 0 := rfl
  omega

theorem x_wb1 {k s : Nat} (hk : k < 1000000) (hs : s < 1000000) (rents : Nat → Int32) (n : Nat) (R : Nat → Nat → Nat) : f_X8_waysToBring_d1 rents (nI k - nI s) (nI 0) (nI n) = some (nI (wayN k n R 0 s)) := by
  unfold f_X8_waysToBring_d1 f_X8_waysToBring_d1_b10
  rw [wayN]
  by_cases h : k ≤ s
  · rw [if_pos h]
    have e := lt0_f h hs
    simp (disch := omega) only [li_0, li_1, li_2, li_3, li_4, li_5, li_6, li_7, li_8, li_9, li_10, li_11, li_12, li_13, li_14, li_15, li_16, li_17, li_18, li_19, li_20, li_21, li_22, li_23, li_24, li_25, li_26, li_27, li_28, li_29, li_30, li_31, li_32, li_34, li_35, li_40, li_41, li_45, li_48, li_49, li_50, li_57, li_58, li_59, li_60, li_61, li_64, li_65, li_97, li_99, li_100, li_115, li_116, li_121, li_122, li_200, li_255, li_256, li_300, li_999, li_1000, li_12345, li_65535, li_1103515245, p_lt_t, if_true, e, if_false]
  · rw [if_neg h]
    have e := lt0_t (show s < k by omega) hk
    simp (disch := omega) only [li_0, li_1, li_2, li_3, li_4, li_5, li_6, li_7, li_8, li_9, li_10, li_11, li_12, li_13, li_14, li_15, li_16, li_17, li_18, li_19, li_20, li_21, li_22, li_23, li_24, li_25, li_26, li_27, li_28, li_29, li_30, li_31, li_32, li_34, li_35, li_40, li_41, li_45, li_48, li_49, li_50, li_57, li_58, li_59, li_60, li_61, li_64, li_65, li_97, li_99, li_100, li_115, li_116, li_121, li_122, li_200, li_255, li_256, li_300, li_999, li_1000, li_12345, li_65535, li_1103515245, p_lt_t, if_true, e, if_false]
theorem x_wb2 {k s : Nat} (hk : k < 1000000) (hs : s < 1000000) (rents : Nat → Int32) (n : Nat) (R : Nat → Nat → Nat) : f_X8_waysToBring_d2 rents (nI k - nI s) (nI 0) (nI n) = some (nI (wayN k n R 0 s)) := by
  unfold f_X8_waysToBring_d2 f_X8_waysToBring_d2_b10
  rw [wayN]
  by_cases h : k ≤ s
  · rw [if_pos h]
    have e := lt0_f h hs
    simp (disch := omega) only [li_0, li_1, li_2, li_3, li_4, li_5, li_6, li_7, li_8, li_9, li_10, li_11, li_12, li_13, li_14, li_15, li_16, li_17, li_18, li_19, li_20, li_21, li_22, li_23, li_24, li_25, li_26, li_27, li_28, li_29, li_30, li_31, li_32, li_34, li_35, li_40, li_41, li_45, li_48, li_49, li_50, li_57, li_58, li_59, li_60, li_61, li_64, li_65, li_97, li_99, li_100, li_115, li_116, li_121, li_122, li_200, li_255, li_256, li_300, li_999, li_1000, li_12345, li_65535, li_1103515245, p_lt_t, if_true, e, if_false]
  · rw [if_neg h]
    have e := lt0_t (show s < k by omega) hk
    simp (disch := omega) only [li_0, li_1, li_2, li_3, li_4, li_5, li_6, li_7, li_8, li_9, li_10, li_11, li_12, li_13, li_14, li_15, li_16, li_17, li_18, li_19, li_20, li_21, li_22, li_23, li_24, li_25, li_26, li_27, li_28, li_29, li_30, li_31, li_32, li_34, li_35, li_40, li_41, li_45, li_48, li_49, li_50, li_57, li_58, li_59, li_60, li_61, li_64, li_65, li_97, li_99, li_100, li_115, li_116, li_121, li_122, li_200, li_255, li_256, li_300, li_999, li_1000, li_12345, li_65535, li_1103515245, p_lt_t, if_true, e, if_false]
theorem x_wb3 {k s : Nat} (hk : k < 1000000) (hs : s < 1000000) (rents : Nat → Int32) (n : Nat) (R : Nat → Nat → Nat) : f_X8_waysToBring_d3 rents (nI k - nI s) (nI 0) (nI n) = some (nI (wayN k n R 0 s)) := by
  unfold f_X8_waysToBring_d3 f_X8_waysToBring_d3_b10
  rw [wayN]
  by_cases h : k ≤ s
  · rw [if_pos h]
    have e := lt0_f h hs
    simp (disch := omega) only [li_0, li_1, li_2, li_3, li_4, li_5, li_6, li_7, li_8, li_9, li_10, li_11, li_12, li_13, li_14, li_15, li_16, li_17, li_18, li_19, li_20, li_21, li_22, li_23, li_24, li_25, li_26, li_27, li_28, li_29, li_30, li_31, li_32, li_34, li_35, li_40, li_41, li_45, li_48, li_49, li_50, li_57, li_58, li_59, li_60, li_61, li_64, li_65, li_97, li_99, li_100, li_115, li_116, li_121, li_122, li_200, li_255, li_256, li_300, li_999, li_1000, li_12345, li_65535, li_1103515245, p_lt_t, if_true, e, if_false]
  · rw [if_neg h]
    have e := lt0_t (show s < k by omega) hk
    simp (disch := omega) only [li_0, li_1, li_2, li_3, li_4, li_5, li_6, li_7, li_8, li_9, li_10, li_11, li_12, li_13, li_14, li_15, li_16, li_17, li_18, li_19, li_20, li_21, li_22, li_23, li_24, li_25, li_26, li_27, li_28, li_29, li_30, li_31, li_32, li_34, li_35, li_40, li_41, li_45, li_48, li_49, li_50, li_57, li_58, li_59, li_60, li_61, li_64, li_65, li_97, li_99, li_100, li_115, li_116, li_121, li_122, li_200, li_255, li_256, li_300, li_999, li_1000, li_12345, li_65535, li_1103515245, p_lt_t, if_true, e, if_false]
theorem x_wb4 {k s : Nat} (hk : k < 1000000) (hs : s < 1000000) (rents : Nat → Int32) (n : Nat) (R : Nat → Nat → Nat) : f_X8_waysToBring_d4 rents (nI k - nI s) (nI 0) (nI n) = some (nI (wayN k n R 0 s)) := by
  unfold f_X8_waysToBring_d4 f_X8_waysToBring_d4_b10
  rw [wayN]
  by_cases h : k ≤ s
  · rw [if_pos h]
    have e := lt0_f h hs
    simp (disch := omega) only [li_0, li_1, li_2, li_3, li_4, li_5, li_6, li_7, li_8, li_9, li_10, li_11, li_12, li_13, li_14, li_15, li_16, li_17, li_18, li_19, li_20, li_21, li_22, li_23, li_24, li_25, li_26, li_27, li_28, li_29, li_30, li_31, li_32, li_34, li_35, li_40, li_41, li_45, li_48, li_49, li_50, li_57, li_58, li_59, li_60, li_61, li_64, li_65, li_97, li_99, li_100, li_115, li_116, li_121, li_122, li_200, li_255, li_256, li_300, li_999, li_1000, li_12345, li_65535, li_1103515245, p_lt_t, if_true, e, if_false]
  · rw [if_neg h]
    have e := lt0_t (show s < k by omega) hk
    simp (disch := omega) only [li_0, li_1, li_2, li_3, li_4, li_5, li_6, li_7, li_8, li_9, li_10, li_11, li_12, li_13, li_14, li_15, li_16, li_17, li_18, li_19, li_20, li_21, li_22, li_23, li_24, li_25, li_26, li_27, li_28, li_29, li_30, li_31, li_32, li_34, li_35, li_40, li_41, li_45, li_48, li_49, li_50, li_57, li_58, li_59, li_60, li_61, li_64, li_65, li_97, li_99, li_100, li_115, li_116, li_121, li_122, li_200, li_255, li_256, li_300, li_999, li_1000, li_12345, li_65535, li_1103515245, p_lt_t, if_true, e, if_false]
theorem x_wl2 {k s m n : Nat} {rents : Nat → Int32} {R : Nat → Nat → Nat} (hn : n ≤ 8) (hm : m < 3) (hR : ∀ c, c < n → rents (m * 8 + c) = nI (R m c)) (hp : ∀ c, c < n → f_X8_waysToBring_d1 rents (nI k - nI (s + R m c)) (nI m) (nI n) = some (nI (wayN k n R m (s + R m c)))) : ∀ (r c nn a : Nat), c + r = n → r < nn → f_X8_waysToBring_d2_b26 rents (nI k - nI s) (nI (m + 1)) (nI n) nn (nI a) (nI c) = some (nI (a + sumF (fun c => wayN k n R m (s + R m c)) r c)) := by
  have em : nI (m + 1) - nI 1 = nI m := by rw [pk_sub (by omega), Nat.add_sub_cancel]
  intro r
  induction r with
  | zero =>
    intro c nn a hc hnn
    obtain ⟨p, rfl⟩ : ∃ p, nn = p + 1 := ⟨nn - 1, by omega⟩
    rw [f_X8_waysToBring_d2_b26, sumF]
    simp (disch := omega) only [li_0, li_1, li_2, li_3, li_4, li_5, li_6, li_7, li_8, li_9, li_10, li_11, li_12, li_13, li_14, li_15, li_16, li_17, li_18, li_19, li_20, li_21, li_22, li_23, li_24, li_25, li_26, li_27, li_28, li_29, li_30, li_31, li_32, li_34, li_35, li_40, li_41, li_45, li_48, li_49, li_50, li_57, li_58, li_59, li_60, li_61, li_64, li_65, li_97, li_99, li_100, li_115, li_116, li_121, li_122, li_200, li_255, li_256, li_300, li_999, li_1000, li_12345, li_65535, li_1103515245, p_le_t, if_true, Nat.add_zero]
  | succ r ih =>
    intro c nn a hc hnn
    obtain ⟨p, rfl⟩ : ∃ p, nn = p + 1 := ⟨nn - 1, by omega⟩
    have e1 := hR c (by omega)
    have e2 := hp c (by omega)
    have i1 := ih (c + 1) p (a + wayN k n R m (s + R m c)) (by omega) (by omega)
    rw [f_X8_waysToBring_d2_b26, sumF]
    simp (disch := omega) only [li_0, li_1, li_2, li_3, li_4, li_5, li_6, li_7, li_8, li_9, li_10, li_11, li_12, li_13, li_14, li_15, li_16, li_17, li_18, li_19, li_20, li_21, li_22, li_23, li_24, li_25, li_26, li_27, li_28, li_29, li_30, li_31, li_32, li_34, li_35, li_40, li_41, li_45, li_48, li_49, li_50, li_57, li_58, li_59, li_60, li_61, li_64, li_65, li_97, li_99, li_100, li_115, li_116, li_121, li_122, li_200, li_255, li_256, li_300, li_999, li_1000, li_12345, li_65535, li_1103515245, p_le_f, if_false, em, pk_mul, nI_add, gd_in, nm_s, s_cl, e1, subN, e2, bd1_s, i1, Nat.add_assoc]
theorem x_w2 {k s m n : Nat} {rents : Nat → Int32} {R : Nat → Nat → Nat} (hn : n ≤ 8) (hk : k < 1000) (hm : m ≤ 1) (hs : s + 100 * m < 1000) (hR : ∀ i c, i < m → c < n → rents (i * 8 + c) = nI (R i c) ∧ R i c ≤ 100) : f_X8_waysToBring_d2 rents (nI k - nI s) (nI m) (nI n) = some (nI (wayN k n R m s)) := by
  cases m with
  | zero => exact x_wb2 (by omega) (by omega) rents n R
  | succ m =>
    have e := x_wl2 (k := k) (s := s) (R := R) hn (show m < 3 by omega) (fun c hc => (hR m c (by omega) hc).1) (fun c hc => by
      have := (hR m c (by omega) hc).2
      have hm0 : m = 0 := by omega
      subst hm0
      exact x_wb1 (by omega) (by omega) rents n R) n 0 zF 0 (by omega) (by unfold zF; omega)
    rw [Nat.zero_add] at e
    unfold f_X8_waysToBring_d2
    rw [wayN]
    simp (disch := omega) only [li_0, li_1, li_2, li_3, li_4, li_5, li_6, li_7, li_8, li_9, li_10, li_11, li_12, li_13, li_14, li_15, li_16, li_17, li_18, li_19, li_20, li_21, li_22, li_23, li_24, li_25, li_26, li_27, li_28, li_29, li_30, li_31, li_32, li_34, li_35, li_40, li_41, li_45, li_48, li_49, li_50, li_57, li_58, li_59, li_60, li_61, li_64, li_65, li_97, li_99, li_100, li_115, li_116, li_121, li_122, li_200, li_255, li_256, li_300, li_999, li_1000, li_12345, li_65535, li_1103515245, p_lt_f, p_le_t, if_true, if_false, e]
theorem x_wl3 {k s m n : Nat} {rents : Nat → Int32} {R : Nat → Nat → Nat} (hn : n ≤ 8) (hm : m < 3) (hR : ∀ c, c < n → rents (m * 8 + c) = nI (R m c)) (hp : ∀ c, c < n → f_X8_waysToBring_d2 rents (nI k - nI (s + R m c)) (nI m) (nI n) = some (nI (wayN k n R m (s + R m c)))) : ∀ (r c nn a : Nat), c + r = n → r < nn → f_X8_waysToBring_d3_b26 rents (nI k - nI s) (nI (m + 1)) (nI n) nn (nI a) (nI c) = some (nI (a + sumF (fun c => wayN k n R m (s + R m c)) r c)) := by
  have em : nI (m + 1) - nI 1 = nI m := by rw [pk_sub (by omega), Nat.add_sub_cancel]
  intro r
  induction r with
  | zero =>
    intro c nn a hc hnn
    obtain ⟨p, rfl⟩ : ∃ p, nn = p + 1 := ⟨nn - 1, by omega⟩
    rw [f_X8_waysToBring_d3_b26, sumF]
    simp (disch := omega) only [li_0, li_1, li_2, li_3, li_4, li_5, li_6, li_7, li_8, li_9, li_10, li_11, li_12, li_13, li_14, li_15, li_16, li_17, li_18, li_19, li_20, li_21, li_22, li_23, li_24, li_25, li_26, li_27, li_28, li_29, li_30, li_31, li_32, li_34, li_35, li_40, li_41, li_45, li_48, li_49, li_50, li_57, li_58, li_59, li_60, li_61, li_64, li_65, li_97, li_99, li_100, li_115, li_116, li_121, li_122, li_200, li_255, li_256, li_300, li_999, li_1000, li_12345, li_65535, li_1103515245, p_le_t, if_true, Nat.add_zero]
  | succ r ih =>
    intro c nn a hc hnn
    obtain ⟨p, rfl⟩ : ∃ p, nn = p + 1 := ⟨nn - 1, by omega⟩
    have e1 := hR c (by omega)
    have e2 := hp c (by omega)
    have i1 := ih (c + 1) p (a + wayN k n R m (s + R m c)) (by omega) (by omega)
    rw [f_X8_waysToBring_d3_b26, sumF]
    simp (disch := omega) only [li_0, li_1, li_2, li_3, li_4, li_5, li_6, li_7, li_8, li_9, li_10, li_11, li_12, li_13, li_14, li_15, li_16, li_17, li_18, li_19, li_20, li_21, li_22, li_23, li_24, li_25, li_26, li_27, li_28, li_29, li_30, li_31, li_32, li_34, li_35, li_40, li_41, li_45, li_48, li_49, li_50, li_57, li_58, li_59, li_60, li_61, li_64, li_65, li_97, li_99, li_100, li_115, li_116, li_121, li_122, li_200, li_255, li_256, li_300, li_999, li_1000, li_12345, li_65535, li_1103515245, p_le_f, if_false, em, pk_mul, nI_add, gd_in, nm_s, s_cl, e1, subN, e2, bd1_s, i1, Nat.add_assoc]
theorem x_w3 {k s m n : Nat} {rents : Nat → Int32} {R : Nat → Nat → Nat} (hn : n ≤ 8) (hk : k < 1000) (hm : m ≤ 2) (hs : s + 100 * m < 1000) (hR : ∀ i c, i < m → c < n → rents (i * 8 + c) = nI (R i c) ∧ R i c ≤ 100) : f_X8_waysToBring_d3 rents (nI k - nI s) (nI m) (nI n) = some (nI (wayN k n R m s)) := by
  cases m with
  | zero => exact x_wb3 (by omega) (by omega) rents n R
  | succ m =>
    have e := x_wl3 (k := k) (s := s) (R := R) hn (show m < 3 by omega) (fun c hc => (hR m c (by omega) hc).1) (fun c hc => by
      have := (hR m c (by omega) hc).2
      exact x_w2 hn hk (by omega) (by omega) (fun i c hi hc => hR i c (by omega) hc)) n 0 zF 0 (by omega) (by unfold zF; omega)
    rw [Nat.zero_add] at e
    unfold f_X8_waysToBring_d3
    rw [wayN]
    simp (disch := omega) only [li_0, li_1, li_2, li_3, li_4, li_5, li_6, li_7, li_8, li_9, li_10, li_11, li_12, li_13, li_14, li_15, li_16, li_17, li_18, li_19, li_20, li_21, li_22, li_23, li_24, li_25, li_26, li_27, li_28, li_29, li_30, li_31, li_32, li_34, li_35, li_40, li_41, li_45, li_48, li_49, li_50, li_57, li_58, li_59, li_60, li_61, li_64, li_65, li_97, li_99, li_100, li_115, li_116, li_121, li_122, li_200, li_255, li_256, li_300, li_999, li_1000, li_12345, li_65535, li_1103515245, p_lt_f, p_le_t, if_true, if_false, e]
theorem x_wl4 {k s m n : Nat} {rents : Nat → Int32} {R : Nat → Nat → Nat} (hn : n ≤ 8) (hm : m < 3) (hR : ∀ c, c < n → rents (m * 8 + c) = nI (R m c)) (hp : ∀ c, c < n → f_X8_waysToBring_d3 rents (nI k - nI (s + R m c)) (nI m) (nI n) = some (nI (wayN k n R m (s + R m c)))) : ∀ (r c nn a : Nat), c + r = n → r < nn → f_X8_waysToBring_d4_b26 rents (nI k - nI s) (nI (m + 1)) (nI n) nn (nI a) (nI c) = some (nI (a + sumF (fun c => wayN k n R m (s + R m c)) r c)) := by
  have em : nI (m + 1) - nI 1 = nI m := by rw [pk_sub (by omega), Nat.add_sub_cancel]
  intro r
  induction r with
  | zero =>
    intro c nn a hc hnn
    obtain ⟨p, rfl⟩ : ∃ p, nn = p + 1 := ⟨nn - 1, by omega⟩
    rw [f_X8_waysToBring_d4_b26, sumF]
    simp (disch := omega) only [li_0, li_1, li_2, li_3, li_4, li_5, li_6, li_7, li_8, li_9, li_10, li_11, li_12, li_13, li_14, li_15, li_16, li_17, li_18, li_19, li_20, li_21, li_22, li_23, li_24, li_25, li_26, li_27, li_28, li_29, li_30, li_31, li_32, li_34, li_35, li_40, li_41, li_45, li_48, li_49, li_50, li_57, li_58, li_59, li_60, li_61, li_64, li_65, li_97, li_99, li_100, li_115, li_116, li_121, li_122, li_200, li_255, li_256, li_300, li_999, li_1000, li_12345, li_65535, li_1103515245, p_le_t, if_true, Nat.add_zero]
  | succ r ih =>
    intro c nn a hc hnn
    obtain ⟨p, rfl⟩ : ∃ p, nn = p + 1 := ⟨nn - 1, by omega⟩
    have e1 := hR c (by omega)
    have e2 := hp c (by omega)
    have i1 := ih (c + 1) p (a + wayN k n R m (s + R m c)) (by omega) (by omega)
    rw [f_X8_waysToBring_d4_b26, sumF]
    simp (disch := omega) only [li_0, li_1, li_2, li_3, li_4, li_5, li_6, li_7, li_8, li_9, li_10, li_11, li_12, li_13, li_14, li_15, li_16, li_17, li_18, li_19, li_20, li_21, li_22, li_23, li_24, li_25, li_26, li_27, li_28, li_29, li_30, li_31, li_32, li_34, li_35, li_40, li_41, li_45, li_48, li_49, li_50, li_57, li_58, li_59, li_60, li_61, li_64, li_65, li_97, li_99, li_100, li_115, li_116, li_121, li_122, li_200, li_255, li_256, li_300, li_999, li_1000, li_12345, li_65535, li_1103515245, p_le_f, if_false, em, pk_mul, nI_add, gd_in, nm_s, s_cl, e1, subN, e2, bd1_s, i1, Nat.add_assoc]
theorem x_w4 {k s m n : Nat} {rents : Nat → Int32} {R : Nat → Nat → Nat} (hn : n ≤ 8) (hk : k < 1000) (hm : m ≤ 3) (hs : s + 100 * m < 1000) (hR : ∀ i c, i < m → c < n → rents (i * 8 + c) = nI (R i c) ∧ R i c ≤ 100) : f_X8_waysToBring_d4 rents (nI k - nI s) (nI m) (nI n) = some (nI (wayN k n R m s)) := by
  cases m with
  | zero => exact x_wb4 (by omega) (by omega) rents n R
  | succ m =>
    have e := x_wl4 (k := k) (s := s) (R := R) hn (show m < 3 by omega) (fun c hc => (hR m c (by omega) hc).1) (fun c hc => by
      have := (hR m c (by omega) hc).2
      exact x_w3 hn hk (by omega) (by omega) (fun i c hi hc => hR i c (by omega) hc)) n 0 zF 0 (by omega) (by unfold zF; omega)
    rw [Nat.zero_add] at e
    unfold f_X8_waysToBring_d4
    rw [wayN]
    simp (disch := omega) only [li_0, li_1, li_2, li_3, li_4, li_5, li_6, li_7, li_8, li_9, li_10, li_11, li_12, li_13, li_14, li_15, li_16, li_17, li_18, li_19, li_20, li_21, li_22, li_23, li_24, li_25, li_26, li_27, li_28, li_29, li_30, li_31, li_32, li_34, li_35, li_40, li_41, li_45, li_48, li_49, li_50, li_57, li_58, li_59, li_60, li_61, li_64, li_65, li_97, li_99, li_100, li_115, li_116, li_121, li_122, li_200, li_255, li_256, li_300, li_999, li_1000, li_12345, li_65535, li_1103515245, p_lt_f, p_le_t, if_true, if_false, e]
section OD
variable {n ns nt cnt : Nat} {sa sp sb ld : Nat → Nat} {sq st te : Int32} {starts paces brights : Nat → Int32} {msq mst mte : Int32} {ms : Nat → Int32} {lsize : Int32} {lp s : Nat → Int32}
theorem x_od69 (hS : gS n ns nt sa sp sb sq st te starts paces brights msq mst mte ms) (hL : gL n nt cnt ld lsize lp s) {d i t : Nat} (hd : d ≤ 99) (hi : i < 3) (k48 : Int32 → Int32 → (Nat → Int32) → Option (Int32 × (Nat → Int32))) (x5 : Int32) : ∀ (r c nn : Nat) (rents : Nat → Int32), c + r = n → r < nn → ∃ rents' : Nat → Int32, f_X8_odds_b69 (nI n) (nI ns) (nI d) paces starts (nI cnt) lp brights k48 (nI t) x5 (nI i) nn (nI c) rents = k48 x5 (nI (i + 1)) rents' ∧ (∀ c', c ≤ c' → c' < n → rents' (i * 8 + c') = nI (bri n cnt ld sa sp sb (d + i) c' t ns 0)) ∧ (∀ j, j < i * 8 + c → rents' j = rents j) := by
  obtain ⟨b1, b2, b3, b4, -, -, -, -, -, -, hst⟩ := id hS
  intro r
  induction r with
  | zero =>
    intro c nn rents hc hnn
    obtain ⟨m, rfl⟩ : ∃ m, nn = m + 1 := ⟨nn - 1, by omega⟩
    refine ⟨rents, ?_, fun c' h1 h2 => by omega, fun _ _ => rfl⟩
    rw [f_X8_odds_b69]
    (repeat (simp (disch := omega) only [li_0, li_1, li_2, li_3, li_4, li_5, li_6, li_7, li_8, li_9, li_10, li_11, li_12, li_13, li_14, li_15, li_16, li_17, li_18, li_19, li_20, li_21, li_22, li_23, li_24, li_25, li_26, li_27, li_28, li_29, li_30, li_31, li_32, li_34, li_35, li_40, li_41, li_45, li_48, li_49, li_50, li_57, li_58, li_59, li_60, li_61, li_64, li_65, li_97, li_99, li_100, li_115, li_116, li_121, li_122, li_200, li_255, li_256, li_300, li_999, li_1000, li_12345, li_65535, li_1103515245, if_true, if_false, nI_add, pk_mul, pk_sub, s_div, s_rem, s_cl, p_le_t, p_le_f, p_lt_t, p_lt_f, p_eq_t, p_eq_f, bd1_s, bd2_s, bd3_s, nm_s, gd_t, gd_in, gd_nz, gd_bz0, gd_bz1, gd_cp]))
  | succ r ih =>
    intro c nn rents hc hnn
    obtain ⟨m, rfl⟩ : ∃ m, nn = m + 1 := ⟨nn - 1, by omega⟩
    have e1 := x_broughtTo hS hL (t := t) (show d + i < 1000000 by omega) (show c < n by omega)
    obtain ⟨rents', k1, k2, k3⟩ := ih (c + 1) m (upd rents (i * 8 + c) (nI (bri n cnt ld sa sp sb (d + i) c t ns 0))) (by omega) (by omega)
    refine ⟨rents', ?_, fun c' h1 h2 => ?_, fun j hj => ?_⟩
    · rw [f_X8_odds_b69]
      (repeat (simp (disch := omega) only [li_0, li_1, li_2, li_3, li_4, li_5, li_6, li_7, li_8, li_9, li_10, li_11, li_12, li_13, li_14, li_15, li_16, li_17, li_18, li_19, li_20, li_21, li_22, li_23, li_24, li_25, li_26, li_27, li_28, li_29, li_30, li_31, li_32, li_34, li_35, li_40, li_41, li_45, li_48, li_49, li_50, li_57, li_58, li_59, li_60, li_61, li_64, li_65, li_97, li_99, li_100, li_115, li_116, li_121, li_122, li_200, li_255, li_256, li_300, li_999, li_1000, li_12345, li_65535, li_1103515245, if_true, if_false, nI_add, pk_mul, pk_sub, s_div, s_rem, s_cl, p_le_t, p_le_f, p_lt_t, p_lt_f, p_eq_t, p_eq_f, bd1_s, bd2_s, bd3_s, nm_s, gd_t, gd_in, gd_nz, gd_bz0, gd_bz1, gd_cp, e1, k1]))
    · by_cases e : c' = c
      · subst e
        rw [k3 _ (by omega), pk_us]
      · exact k2 c' (by omega) h2
    · rw [k3 j (by omega), pk_un (by omega)]
theorem pow_512 {n m : Nat} (hn : n ≤ 8) (hm : m ≤ 3) : n ^ m ≤ 512 := Nat.le_trans (Nat.pow_le_pow_left hn m) (Nat.le_trans (Nat.pow_le_pow_right (by decide) hm) (by decide))
theorem x_od48 (hS : gS n ns nt sa sp sb sq st te starts paces brights msq mst mte ms) (hL : gL n nt cnt ld lsize lp s) {d t m : Nat} (hd : d ≤ 99) (hm : m ≤ 3) (x3 x4 : Int32) : ∀ (r i nn : Nat) (rents : Nat → Int32), i + r = m → r < nn → (∀ i' c, i' < i → c < n → rents (i' * 8 + c) = nI (bri n cnt ld sa sp sb (d + i') c t ns 0)) → ∃ rents' : Nat → Int32, f_X8_odds_b48 (nI n) (nI ns) (nI d) paces starts (nI cnt) lp brights (nI t) (nI m) x3 x4 nn (nI (n ^ i)) (nI i) rents = f_X8_odds_b48 (nI n) (nI ns) (nI d) paces starts (nI cnt) lp brights (nI t) (nI m) x3 x4 (0 + 1) (nI (n ^ m)) (nI m) rents' ∧ ∀ i' c, i' < m → c < n → rents' (i' * 8 + c) = nI (bri n cnt ld sa sp sb (d + i') c t ns 0) := by
  obtain ⟨b1, b2, b3, b4, -, -, -, -, -, -, hst⟩ := id hS
  intro r
  induction r with
  | zero =>
    intro i nn rents hi hnn hr
    obtain ⟨p, rfl⟩ : ∃ m, nn = m + 1 := ⟨nn - 1, by omega⟩
    have hi2 : i = m := by omega
    subst hi2
    refine ⟨rents, ?_, hr⟩
    rw [f_X8_odds_b48, f_X8_odds_b48]
    simp (disch := omega) only [p_le_t, if_true]
  | succ r ih =>
    intro i nn rents hi hnn hr
    obtain ⟨p, rfl⟩ : ∃ m, nn = m + 1 := ⟨nn - 1, by omega⟩
    obtain ⟨rents1, k1, k2, k3⟩ := x_od69 hS hL (t := t) hd (show i < 3 by omega) (f_X8_odds_b48 (nI n) (nI ns) (nI d) paces starts (nI cnt) lp brights (nI t) (nI m) x3 x4 p) (nI (n ^ i * n)) n 0 zF rents (by omega) (by unfold zF; omega)
    obtain ⟨rents', l1, l2⟩ := ih (i + 1) p rents1 (by omega) (by omega) (fun i' c h1 h2 => by
      by_cases e : i' = i
      · subst e
        exact k2 c (by omega) h2
      · rw [k3 _ (by omega)]
        exact hr i' c (by omega) h2)
    refine ⟨rents', ?_, l2⟩
    rw [← l1, f_X8_odds_b48, Nat.pow_succ]
    simp (disch := omega) only [li_0, li_1, li_2, li_3, li_4, li_5, li_6, li_7, li_8, li_9, li_10, li_11, li_12, li_13, li_14, li_15, li_16, li_17, li_18, li_19, li_20, li_21, li_22, li_23, li_24, li_25, li_26, li_27, li_28, li_29, li_30, li_31, li_32, li_34, li_35, li_40, li_41, li_45, li_48, li_49, li_50, li_57, li_58, li_59, li_60, li_61, li_64, li_65, li_97, li_99, li_100, li_115, li_116, li_121, li_122, li_200, li_255, li_256, li_300, li_999, li_1000, li_12345, li_65535, li_1103515245, p_le_f, if_false, pk_mul, k1]
theorem m_od94 (hS : gS n ns nt sa sp sb sq st te starts paces brights msq mst mte ms) (hL : gL n nt cnt ld lsize lp s) {d t m k x7 : Nat} (hd : d ≤ 99) (h0 : s 0 = nI d) (hm : m ≤ 3) (hk : k < 1000) (hx : x7 < 1000) (k77 : Int32 → Int32 → Option (Int32 × Int32)) (x6 : Int32) : ∀ (r i nn y acc : Nat), i + r = m → r < nn → y < 1000 → acc ≤ 100 * i → f_X9_odds_b94 (nI n) (nI ns) s ms k77 (nI t) (nI m) (nI k) x6 (nI x7) nn (nI y) (nI acc) (nI i) = k77 (x6 + nI (if k ≤ acc + digs n (fun i c => bri n cnt ld sa sp sb (d + i) c t ns 0) r i y then 1 else 0)) (nI (x7 + 1)) := by
  obtain ⟨b1, b2, b3, b4, -, -, -, -, -, -, hst⟩ := id hS
  intro r
  induction r with
  | zero =>
    intro i nn y acc hi hnn hy hacc
    obtain ⟨p, rfl⟩ : ∃ m, nn = m + 1 := ⟨nn - 1, by omega⟩
    rw [f_X9_odds_b94, digs, Nat.add_zero]
    unfold f_X9_odds_b154
    by_cases h : k ≤ acc
    · rw [if_pos h]
      (repeat (simp (disch := omega) only [li_0, li_1, li_2, li_3, li_4, li_5, li_6, li_7, li_8, li_9, li_10, li_11, li_12, li_13, li_14, li_15, li_16, li_17, li_18, li_19, li_20, li_21, li_22, li_23, li_24, li_25, li_26, li_27, li_28, li_29, li_30, li_31, li_32, li_34, li_35, li_40, li_41, li_45, li_48, li_49, li_50, li_57, li_58, li_59, li_60, li_61, li_64, li_65, li_97, li_99, li_100, li_115, li_116, li_121, li_122, li_200, li_255, li_256, li_300, li_999, li_1000, li_12345, li_65535, li_1103515245, if_true, if_false, nI_add, pk_mul, pk_sub, s_div, s_rem, s_cl, p_le_t, p_le_f, p_lt_t, p_lt_f, p_eq_t, p_eq_f, bd1_s, bd2_s, bd3_s, nm_s, gd_t, gd_in, gd_nz, gd_bz0, gd_bz1, gd_cp]))
    · rw [if_neg h]
      (repeat (simp (disch := omega) only [li_0, li_1, li_2, li_3, li_4, li_5, li_6, li_7, li_8, li_9, li_10, li_11, li_12, li_13, li_14, li_15, li_16, li_17, li_18, li_19, li_20, li_21, li_22, li_23, li_24, li_25, li_26, li_27, li_28, li_29, li_30, li_31, li_32, li_34, li_35, li_40, li_41, li_45, li_48, li_49, li_50, li_57, li_58, li_59, li_60, li_61, li_64, li_65, li_97, li_99, li_100, li_115, li_116, li_121, li_122, li_200, li_255, li_256, li_300, li_999, li_1000, li_12345, li_65535, li_1103515245, if_true, if_false, nI_add, pk_mul, pk_sub, s_div, s_rem, s_cl, p_le_t, p_le_f, p_lt_t, p_lt_f, p_eq_t, p_eq_f, bd1_s, bd2_s, bd3_s, nm_s, gd_t, gd_in, gd_nz, gd_bz0, gd_bz1, gd_cp]))
  | succ r ih =>
    intro i nn y acc hi hnn hy hacc
    obtain ⟨p, rfl⟩ : ∃ m, nn = m + 1 := ⟨nn - 1, by omega⟩
    have hc : y % n < n := Nat.mod_lt _ (by omega)
    have hy2 : y / n ≤ y := Nat.div_le_self _ _
    have e1 := m_rentOf hS hL (t := t) (show d + i < 1000000 by omega) hc
    have hb : bri n cnt ld sa sp sb (d + i) (y % n) t ns 0 ≤ 9 * ns := bri_le (fun j hj => (hst j hj).2.2.2.1) ns 0 (by omega)
    have i1 := ih (i + 1) p (y / n) (acc + bri n cnt ld sa sp sb (d + i) (y % n) t ns 0) (by omega) (by omega) (by omega) (by omega)
    rw [f_X9_odds_b94, digs]
    simp only [rem_fold]
    rw [Nat.add_assoc] at i1
    (repeat (simp (disch := omega) only [li_0, li_1, li_2, li_3, li_4, li_5, li_6, li_7, li_8, li_9, li_10, li_11, li_12, li_13, li_14, li_15, li_16, li_17, li_18, li_19, li_20, li_21, li_22, li_23, li_24, li_25, li_26, li_27, li_28, li_29, li_30, li_31, li_32, li_34, li_35, li_40, li_41, li_45, li_48, li_49, li_50, li_57, li_58, li_59, li_60, li_61, li_64, li_65, li_97, li_99, li_100, li_115, li_116, li_121, li_122, li_200, li_255, li_256, li_300, li_999, li_1000, li_12345, li_65535, li_1103515245, if_true, if_false, nI_add, pk_mul, pk_sub, s_div, s_rem, s_cl, p_le_t, p_le_f, p_lt_t, p_lt_f, p_eq_t, p_eq_f, bd1_s, bd2_s, bd3_s, nm_s, gd_t, gd_in, gd_nz, gd_bz0, gd_bz1, gd_cp, h0, e1, i1]))
theorem m_od77 (hS : gS n ns nt sa sp sb sq st te starts paces brights msq mst mte ms) (hL : gL n nt cnt ld lsize lp s) {d t m k N : Nat} (hd : d ≤ 99) (h0 : s 0 = nI d) (hm : m ≤ 3) (hk : k < 1000) (hN : N ≤ 512) (x4 th : Int32) : ∀ (r x nn g : Nat), x + r = N → r < nn → f_X9_odds_b77 (nI n) (nI ns) s ms (nI t) (nI m) (nI k) x4 (nI N) th nn (nI g) (nI x) = f_X9_odds_b77 (nI n) (nI ns) s ms (nI t) (nI m) (nI k) x4 (nI N) th (0 + 1) (nI (g + sumF (fun x => if k ≤ 0 + digs n (fun i c => bri n cnt ld sa sp sb (d + i) c t ns 0) m 0 x then 1 else 0) r x)) (nI N) := by
  intro r
  induction r with
  | zero =>
    intro x nn g hx hnn
    obtain ⟨p, rfl⟩ : ∃ m, nn = m + 1 := ⟨nn - 1, by omega⟩
    rw [f_X9_odds_b77, sumF, f_X9_odds_b77]
    simp (disch := omega) only [p_le_t, if_true, Nat.add_zero]
  | succ r ih =>
    intro x nn g hx hnn
    obtain ⟨p, rfl⟩ : ∃ m, nn = m + 1 := ⟨nn - 1, by omega⟩
    have k1 := m_od94 hS hL (t := t) (m := m) (k := k) (x7 := x) hd h0 hm hk (by omega) (f_X9_odds_b77 (nI n) (nI ns) s ms (nI t) (nI m) (nI k) x4 (nI N) th p) (nI g) m 0 zF x 0 (by omega) (by unfold zF; omega) (by omega) (by omega)
    have i1 := ih (x + 1) p (g + (if k ≤ 0 + digs n (fun i c => bri n cnt ld sa sp sb (d + i) c t ns 0) m 0 x then 1 else 0)) (by omega) (by omega)
    rw [sumF, ← Nat.add_assoc, ← i1, f_X9_odds_b77]
    simp (disch := omega) only [li_0, li_1, li_2, li_3, li_4, li_5, li_6, li_7, li_8, li_9, li_10, li_11, li_12, li_13, li_14, li_15, li_16, li_17, li_18, li_19, li_20, li_21, li_22, li_23, li_24, li_25, li_26, li_27, li_28, li_29, li_30, li_31, li_32, li_34, li_35, li_40, li_41, li_45, li_48, li_49, li_50, li_57, li_58, li_59, li_60, li_61, li_64, li_65, li_97, li_99, li_100, li_115, li_116, li_121, li_122, li_200, li_255, li_256, li_300, li_999, li_1000, li_12345, li_65535, li_1103515245, p_le_f, if_false, k1, nI_add]
theorem m_od50 {d t m : Nat} (hn : n ≤ 8) (hm : m ≤ 3) (x3 x4 th : Int32) : ∀ (r i nn : Nat), i + r = m → r < nn → f_X9_odds_b50 (nI n) (nI ns) s ms (nI t) (nI m) x3 x4 th nn (nI (n ^ i)) (nI i) = f_X9_odds_b77 (nI n) (nI ns) s ms (nI t) (nI m) x3 x4 (nI (n ^ m)) th zF (nI 0) (nI 0) := by
  intro r
  induction r with
  | zero =>
    intro i nn hi hnn
    obtain ⟨p, rfl⟩ : ∃ m, nn = m + 1 := ⟨nn - 1, by omega⟩
    have hi2 : i = m := by omega
    subst hi2
    rw [f_X9_odds_b50]
    simp (disch := omega) only [li_0, li_1, li_2, li_3, li_4, li_5, li_6, li_7, li_8, li_9, li_10, li_11, li_12, li_13, li_14, li_15, li_16, li_17, li_18, li_19, li_20, li_21, li_22, li_23, li_24, li_25, li_26, li_27, li_28, li_29, li_30, li_31, li_32, li_34, li_35, li_40, li_41, li_45, li_48, li_49, li_50, li_57, li_58, li_59, li_60, li_61, li_64, li_65, li_97, li_99, li_100, li_115, li_116, li_121, li_122, li_200, li_255, li_256, li_300, li_999, li_1000, li_12345, li_65535, li_1103515245, p_le_t, if_true]
  | succ r ih =>
    intro i nn hi hnn
    obtain ⟨p, rfl⟩ : ∃ m, nn = m + 1 := ⟨nn - 1, by omega⟩
    have i1 := ih (i + 1) p (by omega) (by omega)
    rw [Nat.pow_succ] at i1
    rw [f_X9_odds_b50]
    simp (disch := omega) only [li_0, li_1, li_2, li_3, li_4, li_5, li_6, li_7, li_8, li_9, li_10, li_11, li_12, li_13, li_14, li_15, li_16, li_17, li_18, li_19, li_20, li_21, li_22, li_23, li_24, li_25, li_26, li_27, li_28, li_29, li_30, li_31, li_32, li_34, li_35, li_40, li_41, li_45, li_48, li_49, li_50, li_57, li_58, li_59, li_60, li_61, li_64, li_65, li_97, li_99, li_100, li_115, li_116, li_121, li_122, li_200, li_255, li_256, li_300, li_999, li_1000, li_12345, li_65535, li_1103515245, p_le_f, if_false, pk_mul, nI_add, i1]
end OD
theorem pm_odds (v : Nat → Int32) (r : Nat → Nat → Int32) (t : Int64) (vm : Nat → Int32) (rm : Nat → Nat → Int32) (tm : Int64) (hI : Inv v r t vm rm tm) (g1 : Int32) (g2 : Int32) (g3 : Int32) (g4 : Int32) : ∃ (R0 : Int32) (w0 : Nat → Int32) (z0 : Int32), f_X8_odds (v 5) (v 6) (v 7) (r 33) (v 15) (r 3) (r 2) (v 18) (r 13) (r 4) g1 g2 g3 g4 = some (R0, w0) ∧ f_X9_odds (vm 0) (vm 7) (vm 8) (vm 9) (rm 4) (rm 1) g1 g2 g3 g4 = some (R0, z0) ∧ Inv v (updA r 33 w0) t (upd vm 0 z0) rm tm := by
  obtain ⟨n, ns, nt, sa, sp, sb, hS, hT, hN, hI0, hI1, hO, hEe, htr, m8, m13, m17, m19, m33⟩ := id hI
  obtain ⟨b1, b2, b3, b4, s1, s2, s3, s4, s5, s6, hst⟩ := id hS
  obtain ⟨⟨d0, hd0, n1, n2⟩, n3, n4, cnt, un, ld, ub, uk, ud, cn, hL, hU⟩ := id hN
  obtain ⟨l1, l2, l3, l4, l5⟩ := id hL
  have hany : ∀ (w0 : Nat → Int32) (z : Int32), Inv v (updA r 33 w0) t (upd vm 0 z) rm tm := fun w0 z => ⟨n, ns, nt, sa, sp, sb, hS, hT, hN, hI0, hI1, hO, hEe, htr, m8, m13, m17, m19, m33⟩
  unfold f_X8_odds f_X9_odds
  rw [s1, s2, s3, s4, s5, s6, l2, n1, in_eq]
  simp only [li_0, li_1, li_2, li_3, li_4, li_5, li_6, li_7, li_8, li_9, li_10, li_11, li_12, li_13, li_14, li_15, li_16, li_17, li_18, li_19, li_20, li_21, li_22, li_23, li_24, li_25, li_26, li_27, li_28, li_29, li_30, li_31, li_32, li_34, li_35, li_40, li_41, li_45, li_48, li_49, li_50, li_57, li_58, li_59, li_60, li_61, li_64, li_65, li_97, li_99, li_100, li_115, li_116, li_121, li_122, li_200, li_255, li_256, li_300, li_999, li_1000, li_12345, li_65535, li_1103515245]
  rcases num_cases g1 nt (by omega) with ho | ⟨t', ht, rfl⟩
  · exact ⟨-1, r 33, nI 0, by rw [ten_out ho]; (repeat (simp (disch := omega) only [li_0, li_1, li_2, li_3, li_4, li_5, li_6, li_7, li_8, li_9, li_10, li_11, li_12, li_13, li_14, li_15, li_16, li_17, li_18, li_19, li_20, li_21, li_22, li_23, li_24, li_25, li_26, li_27, li_28, li_29, li_30, li_31, li_32, li_34, li_35, li_40, li_41, li_45, li_48, li_49, li_50, li_57, li_58, li_59, li_60, li_61, li_64, li_65, li_97, li_99, li_100, li_115, li_116, li_121, li_122, li_200, li_255, li_256, li_300, li_999, li_1000, li_12345, li_65535, li_1103515245, if_true, if_false, nI_add, pk_mul, pk_sub, s_div, s_rem, s_cl, p_le_t, p_le_f, p_lt_t, p_lt_f, p_eq_t, p_eq_f, bd1_s, bd2_s, bd3_s, nm_s, gd_t, gd_in, gd_nz, gd_bz0, gd_bz1, gd_cp])), by rw [mTen_out (by omega) ho]; (repeat (simp (disch := omega) only [li_0, li_1, li_2, li_3, li_4, li_5, li_6, li_7, li_8, li_9, li_10, li_11, li_12, li_13, li_14, li_15, li_16, li_17, li_18, li_19, li_20, li_21, li_22, li_23, li_24, li_25, li_26, li_27, li_28, li_29, li_30, li_31, li_32, li_34, li_35, li_40, li_41, li_45, li_48, li_49, li_50, li_57, li_58, li_59, li_60, li_61, li_64, li_65, li_97, li_99, li_100, li_115, li_116, li_121, li_122, li_200, li_255, li_256, li_300, li_999, li_1000, li_12345, li_65535, li_1103515245, if_true, if_false, nI_add, pk_mul, pk_sub, s_div, s_rem, s_cl, p_le_t, p_le_f, p_lt_t, p_lt_f, p_eq_t, p_eq_f, bd1_s, bd2_s, bd3_s, nm_s, gd_t, gd_in, gd_nz, gd_bz0, gd_bz1, gd_cp])), hany _ _⟩
  rw [ten_in ht (by omega), mTen_in ht (by omega)]
  rcases num_cases g2 4 (by decide) with ho | ⟨m, hm, rfl⟩
  · have w := wi_out (a := 1) (c := 3) (by decide) (by decide) ho
    exact ⟨-1, r 33, nI 0, by rw [w]; (repeat (simp (disch := omega) only [li_0, li_1, li_2, li_3, li_4, li_5, li_6, li_7, li_8, li_9, li_10, li_11, li_12, li_13, li_14, li_15, li_16, li_17, li_18, li_19, li_20, li_21, li_22, li_23, li_24, li_25, li_26, li_27, li_28, li_29, li_30, li_31, li_32, li_34, li_35, li_40, li_41, li_45, li_48, li_49, li_50, li_57, li_58, li_59, li_60, li_61, li_64, li_65, li_97, li_99, li_100, li_115, li_116, li_121, li_122, li_200, li_255, li_256, li_300, li_999, li_1000, li_12345, li_65535, li_1103515245, if_true, if_false, nI_add, pk_mul, pk_sub, s_div, s_rem, s_cl, p_le_t, p_le_f, p_lt_t, p_lt_f, p_eq_t, p_eq_f, bd1_s, bd2_s, bd3_s, nm_s, gd_t, gd_in, gd_nz, gd_bz0, gd_bz1, gd_cp])), by rw [w]; (repeat (simp (disch := omega) only [li_0, li_1, li_2, li_3, li_4, li_5, li_6, li_7, li_8, li_9, li_10, li_11, li_12, li_13, li_14, li_15, li_16, li_17, li_18, li_19, li_20, li_21, li_22, li_23, li_24, li_25, li_26, li_27, li_28, li_29, li_30, li_31, li_32, li_34, li_35, li_40, li_41, li_45, li_48, li_49, li_50, li_57, li_58, li_59, li_60, li_61, li_64, li_65, li_97, li_99, li_100, li_115, li_116, li_121, li_122, li_200, li_255, li_256, li_300, li_999, li_1000, li_12345, li_65535, li_1103515245, if_true, if_false, nI_add, pk_mul, pk_sub, s_div, s_rem, s_cl, p_le_t, p_le_f, p_lt_t, p_lt_f, p_eq_t, p_eq_f, bd1_s, bd2_s, bd3_s, nm_s, gd_t, gd_in, gd_nz, gd_bz0, gd_bz1, gd_cp])), hany _ _⟩
  by_cases hm0 : m = 0
  · have w := wi_no (j := m) (a := 1) (c := 3) (by omega) (by omega) (by decide)
    exact ⟨-1, r 33, nI 0, by rw [w]; (repeat (simp (disch := omega) only [li_0, li_1, li_2, li_3, li_4, li_5, li_6, li_7, li_8, li_9, li_10, li_11, li_12, li_13, li_14, li_15, li_16, li_17, li_18, li_19, li_20, li_21, li_22, li_23, li_24, li_25, li_26, li_27, li_28, li_29, li_30, li_31, li_32, li_34, li_35, li_40, li_41, li_45, li_48, li_49, li_50, li_57, li_58, li_59, li_60, li_61, li_64, li_65, li_97, li_99, li_100, li_115, li_116, li_121, li_122, li_200, li_255, li_256, li_300, li_999, li_1000, li_12345, li_65535, li_1103515245, if_true, if_false, nI_add, pk_mul, pk_sub, s_div, s_rem, s_cl, p_le_t, p_le_f, p_lt_t, p_lt_f, p_eq_t, p_eq_f, bd1_s, bd2_s, bd3_s, nm_s, gd_t, gd_in, gd_nz, gd_bz0, gd_bz1, gd_cp])), by rw [w]; (repeat (simp (disch := omega) only [li_0, li_1, li_2, li_3, li_4, li_5, li_6, li_7, li_8, li_9, li_10, li_11, li_12, li_13, li_14, li_15, li_16, li_17, li_18, li_19, li_20, li_21, li_22, li_23, li_24, li_25, li_26, li_27, li_28, li_29, li_30, li_31, li_32, li_34, li_35, li_40, li_41, li_45, li_48, li_49, li_50, li_57, li_58, li_59, li_60, li_61, li_64, li_65, li_97, li_99, li_100, li_115, li_116, li_121, li_122, li_200, li_255, li_256, li_300, li_999, li_1000, li_12345, li_65535, li_1103515245, if_true, if_false, nI_add, pk_mul, pk_sub, s_div, s_rem, s_cl, p_le_t, p_le_f, p_lt_t, p_lt_f, p_eq_t, p_eq_f, bd1_s, bd2_s, bd3_s, nm_s, gd_t, gd_in, gd_nz, gd_bz0, gd_bz1, gd_cp])), hany _ _⟩
  rw [wi_in (j := m) (a := 1) (c := 3) (by omega) (by omega) (by decide)]
  rcases num_cases g3 100 (by decide) with ho | ⟨k, hk, rfl⟩
  · have w := wi_out (a := 0) (c := 99) (by decide) (by decide) ho
    exact ⟨-1, r 33, nI 0, by rw [w]; (repeat (simp (disch := omega) only [li_0, li_1, li_2, li_3, li_4, li_5, li_6, li_7, li_8, li_9, li_10, li_11, li_12, li_13, li_14, li_15, li_16, li_17, li_18, li_19, li_20, li_21, li_22, li_23, li_24, li_25, li_26, li_27, li_28, li_29, li_30, li_31, li_32, li_34, li_35, li_40, li_41, li_45, li_48, li_49, li_50, li_57, li_58, li_59, li_60, li_61, li_64, li_65, li_97, li_99, li_100, li_115, li_116, li_121, li_122, li_200, li_255, li_256, li_300, li_999, li_1000, li_12345, li_65535, li_1103515245, if_true, if_false, nI_add, pk_mul, pk_sub, s_div, s_rem, s_cl, p_le_t, p_le_f, p_lt_t, p_lt_f, p_eq_t, p_eq_f, bd1_s, bd2_s, bd3_s, nm_s, gd_t, gd_in, gd_nz, gd_bz0, gd_bz1, gd_cp])), by rw [w]; (repeat (simp (disch := omega) only [li_0, li_1, li_2, li_3, li_4, li_5, li_6, li_7, li_8, li_9, li_10, li_11, li_12, li_13, li_14, li_15, li_16, li_17, li_18, li_19, li_20, li_21, li_22, li_23, li_24, li_25, li_26, li_27, li_28, li_29, li_30, li_31, li_32, li_34, li_35, li_40, li_41, li_45, li_48, li_49, li_50, li_57, li_58, li_59, li_60, li_61, li_64, li_65, li_97, li_99, li_100, li_115, li_116, li_121, li_122, li_200, li_255, li_256, li_300, li_999, li_1000, li_12345, li_65535, li_1103515245, if_true, if_false, nI_add, pk_mul, pk_sub, s_div, s_rem, s_cl, p_le_t, p_le_f, p_lt_t, p_lt_f, p_eq_t, p_eq_f, bd1_s, bd2_s, bd3_s, nm_s, gd_t, gd_in, gd_nz, gd_bz0, gd_bz1, gd_cp])), hany _ _⟩
  rw [wi_in (j := k) (a := 0) (c := 99) (by omega) (by omega) (by decide)]
  rcases num_cases g4 2 (by decide) with ho | ⟨q, hq, rfl⟩
  · have w := wi_out (a := 0) (c := 1) (by decide) (by decide) ho
    exact ⟨-1, r 33, nI 0, by rw [w]; (repeat (simp (disch := omega) only [li_0, li_1, li_2, li_3, li_4, li_5, li_6, li_7, li_8, li_9, li_10, li_11, li_12, li_13, li_14, li_15, li_16, li_17, li_18, li_19, li_20, li_21, li_22, li_23, li_24, li_25, li_26, li_27, li_28, li_29, li_30, li_31, li_32, li_34, li_35, li_40, li_41, li_45, li_48, li_49, li_50, li_57, li_58, li_59, li_60, li_61, li_64, li_65, li_97, li_99, li_100, li_115, li_116, li_121, li_122, li_200, li_255, li_256, li_300, li_999, li_1000, li_12345, li_65535, li_1103515245, if_true, if_false, nI_add, pk_mul, pk_sub, s_div, s_rem, s_cl, p_le_t, p_le_f, p_lt_t, p_lt_f, p_eq_t, p_eq_f, bd1_s, bd2_s, bd3_s, nm_s, gd_t, gd_in, gd_nz, gd_bz0, gd_bz1, gd_cp])), by rw [w]; (repeat (simp (disch := omega) only [li_0, li_1, li_2, li_3, li_4, li_5, li_6, li_7, li_8, li_9, li_10, li_11, li_12, li_13, li_14, li_15, li_16, li_17, li_18, li_19, li_20, li_21, li_22, li_23, li_24, li_25, li_26, li_27, li_28, li_29, li_30, li_31, li_32, li_34, li_35, li_40, li_41, li_45, li_48, li_49, li_50, li_57, li_58, li_59, li_60, li_61, li_64, li_65, li_97, li_99, li_100, li_115, li_116, li_121, li_122, li_200, li_255, li_256, li_300, li_999, li_1000, li_12345, li_65535, li_1103515245, if_true, if_false, nI_add, pk_mul, pk_sub, s_div, s_rem, s_cl, p_le_t, p_le_f, p_lt_t, p_lt_f, p_eq_t, p_eq_f, bd1_s, bd2_s, bd3_s, nm_s, gd_t, gd_in, gd_nz, gd_bz0, gd_bz1, gd_cp])), hany _ _⟩
  rw [wi_in (j := q) (a := 0) (c := 1) (by omega) (by omega) (by decide)]
  obtain ⟨R, hRd⟩ : ∃ R : Nat → Nat → Nat, R = (fun i c => bri n cnt ld sa sp sb (d0 + i) c t' ns 0) := ⟨_, rfl⟩
  have hRle : ∀ i c, R i c ≤ 100 := by
    intro i c
    rw [hRd]
    have : bri n cnt ld sa sp sb (d0 + i) c t' ns 0 ≤ 9 * ns := bri_le (fun j hj => (hst j hj).2.2.2.1) ns 0 (by omega)
    dsimp only
    omega
  obtain ⟨rents', e1, e2⟩ := x_od48 hS hL (t := t') (m := m) hd0 (by omega) (nI k) (nI q) m 0 zF (r 33) (by omega) (by unfold zF; omega) (fun i' c h1 _ => by omega)
  have ew := x_w4 (k := k) (s := 0) (m := m) (R := R) (rents := rents') b2 (by omega) (by omega) (by omega) (fun i c hi hc => ⟨by rw [hRd]; exact e2 i c hi hc, hRle i c⟩)
  have hN5 := pow_512 b2 (show m ≤ 3 by omega)
  have hNp : 0 < n ^ m := Nat.pow_pos (by omega)
  have hwc := way_count (show 0 < n by omega) k R m 0
  have hwl := way_le (k := k) b2 R m 0
  have h83 : 8 ^ m ≤ 512 := pow_512 (Nat.le_refl 8) (by omega)
  have f1 := m_od50 (n := n) (ns := ns) (s := rm 4) (ms := rm 1) (d := d0) (t := t') (m := m) b2 (by omega) (nI k) (nI q) (nI 0) m 0 zF (by omega) (by unfold zF; omega)
  have f2 := m_od77 hS hL (t := t') (m := m) (k := k) hd0 n2 (by omega) (by omega) hN5 (nI q) (nI 0) (n ^ m) 0 zF 0 (by omega) (by unfold zF; omega)
  rw [← hRd, hwc, Nat.zero_add] at f2
  generalize wayN k n R m 0 = G at *
  generalize n ^ m = A at *
  rw [Nat.pow_zero] at e1 f1
  have gx := x_gcd 10 A G 0 zF (by omega) (by omega) (by omega) (by omega) (by unfold zF; omega)
  have gm := m_gcd 10 G A zF (by omega) (by omega) (by omega) (by unfold zF; omega)
  rw [Nat.gcd_comm G A] at gm
  have hgp : 0 < Nat.gcd A G := Nat.gcd_pos_of_pos_left _ hNp
  have hgl : Nat.gcd A G ≤ A := Nat.gcd_le_left _ hNp
  have hl1 : (nI G).toInt64 = lN G := nI_l (by omega)
  have hl2 : (nI A).toInt64 = lN A := nI_l (by omega)
  have hmx : (if nI 1 < nI (Nat.gcd A G) then nI (Nat.gcd A G) else nI 1) = nI (Nat.gcd A G) := by
    by_cases h : Nat.gcd A G = 1
    · rw [h]; rfl
    · rw [if_pos (nI_lt (by omega) (by omega))]
  have sub00 : nI k - nI 0 = nI k := sub0 _
  rw [sub00] at ew
  rw [f_X8_odds_b48] at e1
  rw [f_X9_odds_b77] at f2
  unfold f_X8_odds_b166 f_X8_greatestCommon at e1
  unfold f_X9_gcd at f2
  simp only [Nat.zero_add] at f2
  by_cases hq0 : q = 0
  · subst hq0
    refine ⟨nI (G / Nat.gcd A G), rents', nI 0, ?_, ?_, hany _ _⟩
    · simp (disch := omega) only [bd1_s, p_eq_f, if_false, e1, p_le_t, if_true]
      (repeat (simp (disch := omega) only [li_0, li_1, li_2, li_3, li_4, li_5, li_6, li_7, li_8, li_9, li_10, li_11, li_12, li_13, li_14, li_15, li_16, li_17, li_18, li_19, li_20, li_21, li_22, li_23, li_24, li_25, li_26, li_27, li_28, li_29, li_30, li_31, li_32, li_34, li_35, li_40, li_41, li_45, li_48, li_49, li_50, li_57, li_58, li_59, li_60, li_61, li_64, li_65, li_97, li_99, li_100, li_115, li_116, li_121, li_122, li_200, li_255, li_256, li_300, li_999, li_1000, li_12345, li_65535, li_1103515245, if_true, if_false, nI_add, pk_mul, pk_sub, s_div, s_rem, s_cl, p_le_t, p_le_f, p_lt_t, p_lt_f, p_eq_t, p_eq_f, bd1_s, bd2_s, bd3_s, nm_s, gd_t, gd_in, gd_nz, gd_bz0, gd_bz1, gd_cp, ew, gx, hmx]))
    · simp (disch := omega) only [bd1_s, p_eq_f, if_false, f1, f2, p_le_t, if_true]
      (repeat (simp (disch := omega) only [li_0, li_1, li_2, li_3, li_4, li_5, li_6, li_7, li_8, li_9, li_10, li_11, li_12, li_13, li_14, li_15, li_16, li_17, li_18, li_19, li_20, li_21, li_22, li_23, li_24, li_25, li_26, li_27, li_28, li_29, li_30, li_31, li_32, li_34, li_35, li_40, li_41, li_45, li_48, li_49, li_50, li_57, li_58, li_59, li_60, li_61, li_64, li_65, li_97, li_99, li_100, li_115, li_116, li_121, li_122, li_200, li_255, li_256, li_300, li_999, li_1000, li_12345, li_65535, li_1103515245, if_true, if_false, nI_add, pk_mul, pk_sub, s_div, s_rem, s_cl, p_le_t, p_le_f, p_lt_t, p_lt_f, p_eq_t, p_eq_f, bd1_s, bd2_s, bd3_s, nm_s, gd_t, gd_in, gd_nz, gd_bz0, gd_bz1, gd_cp, hl1, hl2, gm, lN_i]))
  · refine ⟨nI (A / Nat.gcd A G), rents', nI 0, ?_, ?_, hany _ _⟩
    · simp (disch := omega) only [bd1_s, p_eq_f, if_false, e1, p_le_t, if_true]
      (repeat (simp (disch := omega) only [li_0, li_1, li_2, li_3, li_4, li_5, li_6, li_7, li_8, li_9, li_10, li_11, li_12, li_13, li_14, li_15, li_16, li_17, li_18, li_19, li_20, li_21, li_22, li_23, li_24, li_25, li_26, li_27, li_28, li_29, li_30, li_31, li_32, li_34, li_35, li_40, li_41, li_45, li_48, li_49, li_50, li_57, li_58, li_59, li_60, li_61, li_64, li_65, li_97, li_99, li_100, li_115, li_116, li_121, li_122, li_200, li_255, li_256, li_300, li_999, li_1000, li_12345, li_65535, li_1103515245, if_true, if_false, nI_add, pk_mul, pk_sub, s_div, s_rem, s_cl, p_le_t, p_le_f, p_lt_t, p_lt_f, p_eq_t, p_eq_f, bd1_s, bd2_s, bd3_s, nm_s, gd_t, gd_in, gd_nz, gd_bz0, gd_bz1, gd_cp, ew, gx, hmx]))
    · simp (disch := omega) only [bd1_s, p_eq_f, if_false, f1, f2, p_le_t, if_true]
      (repeat (simp (disch := omega) only [li_0, li_1, li_2, li_3, li_4, li_5, li_6, li_7, li_8, li_9, li_10, li_11, li_12, li_13, li_14, li_15, li_16, li_17, li_18, li_19, li_20, li_21, li_22, li_23, li_24, li_25, li_26, li_27, li_28, li_29, li_30, li_31, li_32, li_34, li_35, li_40, li_41, li_45, li_48, li_49, li_50, li_57, li_58, li_59, li_60, li_61, li_64, li_65, li_97, li_99, li_100, li_115, li_116, li_121, li_122, li_200, li_255, li_256, li_300, li_999, li_1000, li_12345, li_65535, li_1103515245, if_true, if_false, nI_add, pk_mul, pk_sub, s_div, s_rem, s_cl, p_le_t, p_le_f, p_lt_t, p_lt_f, p_eq_t, p_eq_f, bd1_s, bd2_s, bd3_s, nm_s, gd_t, gd_in, gd_nz, gd_bz0, gd_bz1, gd_cp, hl1, hl2, gm, lN_i]))
