/-! numbers: Int32 as nI of a Nat; rows by which a pure function is run with facts about its numbers (simp (disch := omega)) -/
theorem lit_nI (n : Nat) : Int32.ofNat n = nI n := rfl
theorem li_0 : (0 : Int32) = nI 0 := lit_nI 0
theorem li_1 : (1 : Int32) = nI 1 := lit_nI 1
theorem li_2 : (2 : Int32) = nI 2 := lit_nI 2
theorem li_3 : (3 : Int32) = nI 3 := lit_nI 3
theorem li_4 : (4 : Int32) = nI 4 := lit_nI 4
theorem li_5 : (5 : Int32) = nI 5 := lit_nI 5
theorem li_6 : (6 : Int32) = nI 6 := lit_nI 6
theorem li_7 : (7 : Int32) = nI 7 := lit_nI 7
theorem li_8 : (8 : Int32) = nI 8 := lit_nI 8
theorem li_9 : (9 : Int32) = nI 9 := lit_nI 9
theorem li_10 : (10 : Int32) = nI 10 := lit_nI 10
theorem li_11 : (11 : Int32) = nI 11 := lit_nI 11
theorem li_12 : (12 : Int32) = nI 12 := lit_nI 12
theorem li_13 : (13 : Int32) = nI 13 := lit_nI 13
theorem li_14 : (14 : Int32) = nI 14 := lit_nI 14
theorem li_15 : (15 : Int32) = nI 15 := lit_nI 15
theorem li_16 : (16 : Int32) = nI 16 := lit_nI 16
theorem li_17 : (17 : Int32) = nI 17 := lit_nI 17
theorem li_18 : (18 : Int32) = nI 18 := lit_nI 18
theorem li_19 : (19 : Int32) = nI 19 := lit_nI 19
theorem li_20 : (20 : Int32) = nI 20 := lit_nI 20
theorem li_21 : (21 : Int32) = nI 21 := lit_nI 21
theorem li_22 : (22 : Int32) = nI 22 := lit_nI 22
theorem li_23 : (23 : Int32) = nI 23 := lit_nI 23
theorem li_24 : (24 : Int32) = nI 24 := lit_nI 24
theorem li_25 : (25 : Int32) = nI 25 := lit_nI 25
theorem li_26 : (26 : Int32) = nI 26 := lit_nI 26
theorem li_27 : (27 : Int32) = nI 27 := lit_nI 27
theorem li_28 : (28 : Int32) = nI 28 := lit_nI 28
theorem li_29 : (29 : Int32) = nI 29 := lit_nI 29
theorem li_30 : (30 : Int32) = nI 30 := lit_nI 30
theorem li_31 : (31 : Int32) = nI 31 := lit_nI 31
theorem li_32 : (32 : Int32) = nI 32 := lit_nI 32
theorem li_34 : (34 : Int32) = nI 34 := lit_nI 34
theorem li_35 : (35 : Int32) = nI 35 := lit_nI 35
theorem li_40 : (40 : Int32) = nI 40 := lit_nI 40
theorem li_41 : (41 : Int32) = nI 41 := lit_nI 41
theorem li_45 : (45 : Int32) = nI 45 := lit_nI 45
theorem li_48 : (48 : Int32) = nI 48 := lit_nI 48
theorem li_49 : (49 : Int32) = nI 49 := lit_nI 49
theorem li_50 : (50 : Int32) = nI 50 := lit_nI 50
theorem li_57 : (57 : Int32) = nI 57 := lit_nI 57
theorem li_58 : (58 : Int32) = nI 58 := lit_nI 58
theorem li_59 : (59 : Int32) = nI 59 := lit_nI 59
theorem li_60 : (60 : Int32) = nI 60 := lit_nI 60
theorem li_61 : (61 : Int32) = nI 61 := lit_nI 61
theorem li_64 : (64 : Int32) = nI 64 := lit_nI 64
theorem li_65 : (65 : Int32) = nI 65 := lit_nI 65
theorem li_97 : (97 : Int32) = nI 97 := lit_nI 97
theorem li_99 : (99 : Int32) = nI 99 := lit_nI 99
theorem li_100 : (100 : Int32) = nI 100 := lit_nI 100
theorem li_115 : (115 : Int32) = nI 115 := lit_nI 115
theorem li_116 : (116 : Int32) = nI 116 := lit_nI 116
theorem li_121 : (121 : Int32) = nI 121 := lit_nI 121
theorem li_122 : (122 : Int32) = nI 122 := lit_nI 122
theorem li_200 : (200 : Int32) = nI 200 := lit_nI 200
theorem li_255 : (255 : Int32) = nI 255 := lit_nI 255
theorem li_256 : (256 : Int32) = nI 256 := lit_nI 256
theorem li_300 : (300 : Int32) = nI 300 := lit_nI 300
theorem li_999 : (999 : Int32) = nI 999 := lit_nI 999
theorem li_1000 : (1000 : Int32) = nI 1000 := lit_nI 1000
theorem li_12345 : (12345 : Int32) = nI 12345 := lit_nI 12345
theorem li_65535 : (65535 : Int32) = nI 65535 := lit_nI 65535
theorem li_1103515245 : (1103515245 : Int32) = nI 1103515245 := lit_nI 1103515245
theorem if_le_t {α : Type} {a b : Nat} {x y : α} (h : a ≤ b) (hb : b < 2147483648) : (if nI a ≤ nI b then x else y) = x := if_pos (nI_le h hb)
theorem if_le_f {α : Type} {a b : Nat} {x y : α} (h : b < a) (ha : a < 2147483648) : (if nI a ≤ nI b then x else y) = y := if_neg (nI_ge h ha)
theorem if_lt_t {α : Type} {a b : Nat} {x y : α} (h : a < b) (hb : b < 2147483648) : (if nI a < nI b then x else y) = x := if_pos (nI_lt h hb)
theorem if_lt_f {α : Type} {a b : Nat} {x y : α} (h : b ≤ a) (ha : a < 2147483648) : (if nI a < nI b then x else y) = y := if_neg (nI_nlt h ha)
theorem if_eq_t {α : Type} {a b : Nat} {x y : α} (h : a = b) : (if nI a = nI b then x else y) = x := if_pos (by rw [h])
theorem if_eq_f {α : Type} {a b : Nat} {x y : α} (h : a ≠ b) (ha : a < 2147483648) (hb : b < 2147483648) : (if nI a = nI b then x else y) = y := if_neg (fun e => h ((nI_eq ha hb).mp e))
theorem p_le_t {a b : Nat} (h : a ≤ b) (hb : b < 2147483648) : (nI a ≤ nI b) = True := eq_true (nI_le h hb)
theorem p_le_f {a b : Nat} (h : b < a) (ha : a < 2147483648) : (nI a ≤ nI b) = False := eq_false (nI_ge h ha)
theorem p_lt_t {a b : Nat} (h : a < b) (hb : b < 2147483648) : (nI a < nI b) = True := eq_true (nI_lt h hb)
theorem p_lt_f {a b : Nat} (h : b ≤ a) (ha : a < 2147483648) : (nI a < nI b) = False := eq_false (nI_nlt h ha)
theorem p_eq_t {a b : Nat} (h : a = b) : (nI a = nI b) = True := eq_true (by rw [h])
theorem p_eq_f {a b : Nat} (h : a ≠ b) (ha : a < 2147483648) (hb : b < 2147483648) : (nI a = nI b) = False := eq_false (fun e => h ((nI_eq ha hb).mp e))
theorem bd1_s {α β : Type} (x : α) (k : α → Option β) : bd1 (some x) k = k x := id rfl
theorem bd2_s {α β γ : Type} (x : α) (y : β) (k : α → β → Option γ) : bd2 (some (x, y)) k = k x y := id rfl
theorem bd3_s {α β γ δ : Type} (x : α) (y : β) (z : γ) (k : α → β → γ → Option δ) : bd3 (some (x, y, z)) k = k x y z := id rfl
theorem nm_s {α β : Type} (e : α) (k : α → β) : nm e k = k e := id rfl
theorem gd_t {α : Type} (k : Option α) : gd true k = k := id rfl
theorem gd_in {α : Type} {a n : Nat} {k : Option α} (h : a < n) (hn : n < 2147483648) : gd (inB (nI a) n) k = k := by
  have e : inB (nI a) n = true := by
    simp only [inB, Bool.and_eq_true, Bool.not_eq_true', decide_eq_false_iff_not]
    exact ⟨nI_pos (by omega), by rw [nI_clamp (by omega)]; omega⟩
  rw [e]
  rfl
theorem gd_nz {α : Type} {a : Nat} {k : Option α} (h : 0 < a) (hn : a < 2147483648) : gd (nzB (nI a)) k = k := by
  have e : nzB (nI a) = true := by
    simp only [nzB, Bool.not_eq_true', decide_eq_false_iff_not]
    exact nI_ne0 h hn
  rw [e]
  rfl
theorem gd_bz0 {α : Type} {k : Option α} : gd (bzB (nI 0)) k = k := id rfl
theorem gd_bz1 {α : Type} {k : Option α} : gd (bzB (nI 1)) k = k := id rfl
theorem gd_bz0' {α : Type} {k : Option α} : gd (bzB 0) k = k := id rfl
theorem gd_bz1' {α : Type} {k : Option α} : gd (bzB 1) k = k := id rfl
theorem gd_cp {α : Type} {sp dp n n0 n1 : Nat} {k : Option α} (h1 : sp + n ≤ n0) (h2 : dp + n ≤ n1) (h3 : n0 < 2147483648) (h4 : n1 < 2147483648) : gd (cpB (nI sp) (nI dp) (nI n) n0 n1) k = k := by
  have e : cpB (nI sp) (nI dp) (nI n) n0 n1 = true := by
    simp only [cpB, Bool.and_eq_true, Bool.not_eq_true', decide_eq_false_iff_not, decide_eq_true_eq]
    rw [nI_clamp (by omega), nI_clamp (by omega), nI_clamp (by omega)]
    exact ⟨⟨⟨⟨nI_pos (by omega), nI_pos (by omega)⟩, nI_pos (by omega)⟩, h1⟩, h2⟩
  rw [e]
  rfl
def zrem (x y : Int32) : Int32 := x - x / y * y
theorem rem_fold (x y : Int32) : x - x / y * y = zrem x y := rfl
theorem s_rem {a d : Nat} (ha : a < 2147483648) (h0 : 0 < d) (hd : d < 2147483648) : zrem (nI a) (nI d) = nI (a % d) := pk_rem ha h0 hd
theorem s_div {a d : Nat} (ha : a < 2147483648) (h0 : 0 < d) (hd : d < 2147483648) : nI a / nI d = nI (a / d) := pk_div ha h0 hd
theorem s_cl {a : Nat} (h : a < 2147483648) : (nI a).toNatClampNeg = a := nI_clamp h
/-- a number is out of 0 .. n - 1 -/
def outN (x : Int32) (n : Nat) : Prop := x < nI 0 ∨ nI n ≤ x
theorem num_cases (x : Int32) (n : Nat) (hn : n < 2147483648) : outN x n ∨ ∃ j : Nat, j < n ∧ x = nI j := by
  rcases pk_ix x hn with h | h | h
  · exact Or.inl (Or.inl h)
  · exact Or.inl (Or.inr h)
  · exact Or.inr h
theorem toI_nI {n : Nat} (h : n < 2147483648) : (nI n).toInt = (n : Int) := nI_toInt h
/-- the class's test and the reference's, of a number that is out -/
theorem out_a {α : Type} {x : Int32} {n : Nat} {p q : α} (h : outN x n) : (if x < nI 0 then p else if nI n ≤ x then p else q) = p := by
  rcases h with h | h
  · rw [if_pos h]
  · by_cases h0 : x < nI 0
    · rw [if_pos h0]
    · rw [if_neg h0, if_pos h]
theorem out_b {α : Type} {x : Int32} {n : Nat} {p q : α} (hn : n < 1073741824) (h : outN x n) : (if x < nI 0 then p else if nI n - nI 1 < x then p else q) = p := by
  by_cases h0 : x < nI 0
  · rw [if_pos h0]
  · rw [if_neg h0]
    rcases h with h | h
    · exact absurd h h0
    · refine if_pos ?_
      rw [Int32.lt_iff_toInt_lt, pk_sub_toInt (by omega) (by decide)]
      rw [Int32.le_iff_toInt_le, toI_nI (by omega)] at h
      omega
theorem out_c {α : Type} {x : Int32} {n : Nat} {p q : α} (hn : n < 2147483647) (h : outN x (n + 1)) : (if x < nI 0 then p else if nI n < x then p else q) = p := by
  by_cases h0 : x < nI 0
  · rw [if_pos h0]
  · rw [if_neg h0]
    rcases h with h | h
    · exact absurd h h0
    · refine if_pos ?_
      rw [Int32.lt_iff_toInt_lt, toI_nI (by omega)]
      rw [Int32.le_iff_toInt_le, toI_nI (by omega)] at h
      omega
theorem in_b {α : Type} {j n : Nat} {p q : α} (h : j < n) (hn : n < 1073741824) : (if nI j < nI 0 then p else if nI n - nI 1 < nI j then p else q) = q := by
  rw [if_lt_f (Nat.zero_le j) (by omega), if_neg]
  rw [Int32.lt_iff_toInt_lt, pk_sub_toInt (by omega) (by decide), toI_nI (by omega)]
  omega
