def f_X4_isFull  (v_size : Int32)  : Option (Int32) := if v_size < (8 : Int32) then (some ((0 : Int32))) else (some ((1 : Int32)))
abbrev rm_X4_isFull : Room := { frames := 0, cells := 0, slots := 0, locals := 0 }
set_option maxHeartbeats 4000000 in
set_option maxRecDepth 100000 in
theorem c_X4_isFull (l : Launch) (G : zG) (a_this : Nat) (a_this_stars : Nat) (a_this_squares : Nat) (v_size : Int32) (R0 : Int32) (hf : f_X4_isFull v_size = some R0) : Met l yX4_isFull wsX4_isFull rm_X4_isFull (va_Pc [.ref a_this] (zR G [(a_this, .inr (4, [.int v_size, .ref a_this_stars, .ref a_this_squares]))])) (zSv (some (.int R0))) 0 0 (fun _ => False) := by
  refine Met.ofW (cc := cX4_isFull) (maxL := 1) (ret := (some .boolean)) (by decide) rfl ?_
  intro p e s m args below meth c s₁ B hml hv
  obtain ⟨hargs, hP, hE⟩ := hv
  have hx := B.exec
  have hb := B.bytes
  have hr := B.returns
  have hts := atoms_spec (ws := wsX4_isFull) B.pre
  have hown : s.vm.findClass RX4 = some m.cls := findClass_of_methodNamed B.named
  have hlocks := B.notSynchronized
  have hK := hE.1
  have hC : CallFix p m c cX4_isFull 1 s args wsX4_isFull RX4 := ⟨hx, hb, hml, hown, hts⟩
  have inX4 : ∀ w ∈ wsX40, w ∈ wsX4_isFull := by decide +kernel
  have lk9 := hts (.fieldLink RX4 9 "SkyLeases$Seen" "size" "I") (by decide +kernel)
  have hl := lv_entry ([.ref a_this]) (n := 1) (Nat.le_of_ble_eq_true rfl)
  have hent : entryFrame m args 1 = F0 m 0 ((lg_sl ([.ref a_this]) ++ List.replicate (1 - (lg_sl ([.ref a_this])).length) Slot.unset).toArray) [] := by rw [hargs]; exact lg_entry_eq m [.ref a_this] 1
  refine W.eq hent ?_
  clear hent
  generalize (lg_sl ([.ref a_this]) ++ List.replicate (1 - (lg_sl ([.ref a_this])).length) Slot.unset).toArray = ls at hl ⊢
  have hl : lv_has ls 1 [(0, .ref a_this)] := hl
  generalize hQ : MQ below _ args s 0 0 _ = QQ
  change W p l e rm_X4_isFull s m args below meth c s.heap [] 0 0 QQ _
  unfold f_X4_isFull at hf
  refine lv_aload_n hx hb dX4_isFull_0 rfl (lv_at hl 0 rfl) ?_
  refine va_get (D := G.1) (ci := 4) (v := .int v_size) (C := RX4) (T := TX4) (N := 3) hx hb hts inX4 hown hK hP 0 rfl rfl 0 (by decide) lk9 (fun _ h9 => h9) rfl dX4_isFull_1 ?_
  refine lv_bipush (v := (8 : Int32)) hx hb dX4_isFull_4 (by decide) ?_
  refine lv_icmp_lt (tgt := 13) hx hb dX4_isFull_6 (by decide) (fun hc2 => ?_) (fun hc2 => ?_)
  · have hf := if_t hf hc2
    refine lv_iconst (v := (0 : Int32)) hx hb dX4_isFull_13 (by decide) ?_
    have hr0 := so1 hf
    subst hr0
    rw [← hQ]
    exact W.zret (v := (0 : Int32)) hx hb hr rfl (fun t ht hW => ⟨rfl, ht⟩) (fun _ h => by cases h) dX4_isFull_14
  · have hf := if_f hf hc2
    refine lv_iconst (v := (1 : Int32)) hx hb dX4_isFull_9 (by decide) ?_
    refine lv_goto (tgt := 14) hx hb dX4_isFull_10 (by decide) ?_
    have hr0 := so1 hf
    subst hr0
    rw [← hQ]
    exact W.zret (v := (1 : Int32)) hx hb hr rfl (fun t ht hW => ⟨rfl, ht⟩) (fun _ h => by cases h) dX4_isFull_14
theorem hd_X4_isFull : yX4_isFull.cls = RX4 ∧ yX4_isFull.cls ≠ "java/lang/invoke/MethodHandle" ∧ yX4_isFull.cls ≠ "java/lang/invoke/VarHandle" ∧ (parseMethodDescriptor yX4_isFull.desc).map (fun d => d.parameters.length) = some 0 := by decide +kernel
def f_X4_add  (v_size : Int32) (v_stars : (Nat → Int32)) (v_squares : (Nat → Int32)) (g1 : Int32) (g2 : Int32) : Option (Int32 × (Nat → Int32) × (Nat → Int32)) := bd1 (f_X4_isFull (v_size)) fun r7 => if r7 = (0 : Int32) then (gd (inB v_size 8) (nm (upd v_stars (v_size).toNatClampNeg g1) fun y10 => gd (inB v_size 8) (nm (upd v_squares (v_size).toNatClampNeg g2) fun y12 => some ((v_size + (1 : Int32)), y10, y12)))) else (some (v_size, v_stars, v_squares))
abbrev rm_X4_add : Room := { frames := 1, cells := 0, slots := 0, locals := 20 }
set_option maxHeartbeats 4000000 in
set_option maxRecDepth 100000 in
theorem c_X4_add (l : Launch) (G : zG) (sz : Nat) (a_this : Nat) (a_this_stars : Nat) (a_this_squares : Nat) (v_size : Int32) (v_stars : (Nat → Int32)) (v_squares : (Nat → Int32)) (g1 : Int32) (g2 : Int32) (R1 : Int32) (R2 : (Nat → Int32)) (R3 : (Nat → Int32)) (hf : f_X4_add v_size v_stars v_squares g1 g2 = some (R1, R2, R3)) : Met l yX4_add wsX4_add rm_X4_add (va_Pc [.ref a_this, .int g1, .int g2] (zB G [(a_this, .inr (4, [.int v_size, .ref a_this_stars, .ref a_this_squares])), (a_this_stars, .inl (G.2.1, 8, .inl v_stars)), (a_this_squares, .inl (G.2.1, 8, .inl v_squares))] sz)) (zQ G none [(a_this, .inr (4, [.int R1, .ref a_this_stars, .ref a_this_squares])), (a_this_stars, .inl (G.2.1, 8, .inl R2)), (a_this_squares, .inl (G.2.1, 8, .inl R3))] (va_A [(a_this, .inr (4, [.int v_size, .ref a_this_stars, .ref a_this_squares])), (a_this_stars, .inl (G.2.1, 8, .inl v_stars)), (a_this_squares, .inl (G.2.1, 8, .inl v_squares))] sz)) 0 0 (va_A [(a_this, .inr (4, [.int v_size, .ref a_this_stars, .ref a_this_squares])), (a_this_stars, .inl (G.2.1, 8, .inl v_stars)), (a_this_squares, .inl (G.2.1, 8, .inl v_squares))] sz) := by
  refine Met.ofW (cc := cX4_add) (maxL := 3) (ret := none) (by decide) rfl ?_
  intro p e s m args below meth c s₁ B hml hv
  obtain ⟨hargs, hsz, hP, hD0, hE⟩ := hv
  have hx := B.exec
  have hb := B.bytes
  have hr := B.returns
  have hts := atoms_spec (ws := wsX4_add) B.pre
  have hown : s.vm.findClass RX4 = some m.cls := findClass_of_methodNamed B.named
  have hlocks := B.notSynchronized
  have hK := hE.1
  have hC : CallFix p m c cX4_add 3 s args wsX4_add RX4 := ⟨hx, hb, hml, hown, hts⟩
  have inX4 : ∀ w ∈ wsX40, w ∈ wsX4_add := by decide +kernel
  have lk9 := hts (.fieldLink RX4 9 "SkyLeases$Seen" "size" "I") (by decide +kernel)
  have lk15 := hts (.fieldLink RX4 15 "SkyLeases$Seen" "stars" "[I") (by decide +kernel)
  have lk19 := hts (.fieldLink RX4 19 "SkyLeases$Seen" "squares" "[I") (by decide +kernel)
  subst hsz
  have hD := hD0.self (sz := s.heap.size)
  generalize hAe : va_A [(a_this, .inr (4, [.int v_size, .ref a_this_stars, .ref a_this_squares])), (a_this_stars, .inl (G.2.1, 8, .inl v_stars)), (a_this_squares, .inl (G.2.1, 8, .inl v_squares))] s.heap.size = A at hD ⊢
  have hA : ∀ q : Nat, s.heap.size ≤ q → A q := fun q h => by rw [← hAe]; exact Or.inr h
  have hS : va_S A s.heap s.heap [] := va_S.rf
  have hP : va_P G.1 vwCl [(a_this, .inr (4, [.int v_size, .ref a_this_stars, .ref a_this_squares])), (a_this_stars, .inl (G.2.1, 8, .inl v_stars)), (a_this_squares, .inl (G.2.1, 8, .inl v_squares))] s.heap := hP
  have hl := lv_entry ([.ref a_this, .int g1, .int g2]) (n := 3) (Nat.le_of_ble_eq_true rfl)
  have hent : entryFrame m args 3 = F0 m 0 ((lg_sl ([.ref a_this, .int g1, .int g2]) ++ List.replicate (3 - (lg_sl ([.ref a_this, .int g1, .int g2])).length) Slot.unset).toArray) [] := by rw [hargs]; exact lg_entry_eq m [.ref a_this, .int g1, .int g2] 3
  refine W.eq hent ?_
  clear hent
  generalize (lg_sl ([.ref a_this, .int g1, .int g2]) ++ List.replicate (3 - (lg_sl ([.ref a_this, .int g1, .int g2])).length) Slot.unset).toArray = ls at hl ⊢
  have hl : lv_has ls 3 [(0, .ref a_this), (1, .int g1), (2, .int g2)] := hl
  generalize hQ : MQ below _ args s 0 0 _ = QQ
  change W p l e rm_X4_add s m args below meth c s.heap [] 0 0 QQ _
  have hSH := hS
  unfold f_X4_add at hf
  refine lv_aload_n hx hb dX4_add_0 rfl (lv_at hl 0 rfl) ?_
  obtain ⟨r7, hu, hf⟩ := bd1_some hf
  refine zRi (va_runV (As := []) (rest := []) hC (c_X4_isFull l G a_this a_this_stars a_this_squares (v_size) r7 hu) (cwV 0 hts gX4_add_X4_isFull rfl rfl rfl hd_X4_isFull ⟨(Nat.le_of_ble_eq_true rfl), (Nat.le_of_ble_eq_true rfl)⟩) (zPV hE hP [0] rfl 0 rfl rfl) rfl rfl hl.1 rfl (lv_room (Nat.le_of_ble_eq_true rfl)) dX4_add_1 ⟨Nat.zero_le _, Nat.zero_le _⟩) ?_
  refine lv_if_eq (tgt := 8) hx hb dX4_add_4 (by decide) (fun hc8 => ?_) (fun hc8 => ?_)
  · have hf := if_t hf hc8
    refine lv_aload_n hx hb dX4_add_8 rfl (lv_at hl 0 rfl) ?_
    refine va_get (D := G.1) (ci := 4) (v := .ref a_this_stars) (C := RX4) (T := TX4) (N := 3) hx hb hts inX4 hown hK hP 0 rfl rfl 1 (by decide) lk15 (fun _ h9 => h9) rfl dX4_add_9 ?_
    refine lv_aload_n hx hb dX4_add_12 rfl (lv_at hl 0 rfl) ?_
    refine va_get (D := G.1) (ci := 4) (v := .int v_size) (C := RX4) (T := TX4) (N := 3) hx hb hts inX4 hown hK hP 0 rfl rfl 0 (by decide) lk9 (fun _ h9 => h9) rfl dX4_add_13 ?_
    refine lv_iload_n hx hb dX4_add_16 rfl (lv_at hl 1 rfl) ?_
    obtain ⟨hg9, hf⟩ := gd_some hf
    refine z_iast hx hb hK hP hD hS 1 0 rfl rfl (inB_in hg9) dX4_add_17 (fun gg => [(a_this, .inr (4, [.int v_size, .ref a_this_stars, .ref a_this_squares])), (a_this_stars, .inl (G.2.1, 8, .inl gg)), (a_this_squares, .inl (G.2.1, 8, .inl v_squares))]) (fun gg => rfl) (fun y10 H locs ey10 hP hD hS => ?_)
    have hf := nm_to hf ey10
    have hP : va_P G.1 vwCl [(a_this, .inr (4, [.int v_size, .ref a_this_stars, .ref a_this_squares])), (a_this_stars, .inl (G.2.1, 8, .inl y10)), (a_this_squares, .inl (G.2.1, 8, .inl v_squares))] H := hP
    have hD : va_D A [(a_this, .inr (4, [.int v_size, .ref a_this_stars, .ref a_this_squares])), (a_this_stars, .inl (G.2.1, 8, .inl y10)), (a_this_squares, .inl (G.2.1, 8, .inl v_squares))] := hD
    refine lv_aload_n hx hb dX4_add_18 rfl (lv_at hl 0 rfl) ?_
    refine va_get (D := G.1) (ci := 4) (v := .ref a_this_squares) (C := RX4) (T := TX4) (N := 3) hx hb hts inX4 hown hK hP 0 rfl rfl 2 (by decide) lk19 (fun _ h9 => h9) rfl dX4_add_19 ?_
    refine lv_aload_n hx hb dX4_add_22 rfl (lv_at hl 0 rfl) ?_
    refine va_get (D := G.1) (ci := 4) (v := .int v_size) (C := RX4) (T := TX4) (N := 3) hx hb hts inX4 hown hK hP 0 rfl rfl 0 (by decide) lk9 (fun _ h9 => h9) rfl dX4_add_23 ?_
    refine lv_iload_n hx hb dX4_add_26 rfl (lv_at hl 2 rfl) ?_
    obtain ⟨hg11, hf⟩ := gd_some hf
    refine z_iast hx hb hK hP hD hS 2 0 rfl rfl (inB_in hg11) dX4_add_27 (fun gg => [(a_this, .inr (4, [.int v_size, .ref a_this_stars, .ref a_this_squares])), (a_this_stars, .inl (G.2.1, 8, .inl y10)), (a_this_squares, .inl (G.2.1, 8, .inl gg))]) (fun gg => rfl) (fun y12 H locs ey12 hP hD hS => ?_)
    have hf := nm_to hf ey12
    have hP : va_P G.1 vwCl [(a_this, .inr (4, [.int v_size, .ref a_this_stars, .ref a_this_squares])), (a_this_stars, .inl (G.2.1, 8, .inl y10)), (a_this_squares, .inl (G.2.1, 8, .inl y12))] H := hP
    have hD : va_D A [(a_this, .inr (4, [.int v_size, .ref a_this_stars, .ref a_this_squares])), (a_this_stars, .inl (G.2.1, 8, .inl y10)), (a_this_squares, .inl (G.2.1, 8, .inl y12))] := hD
    refine lv_aload_n hx hb dX4_add_28 rfl (lv_at hl 0 rfl) ?_
    refine lv_dup hx hb dX4_add_29 rfl ?_
    refine va_get (D := G.1) (ci := 4) (v := .int v_size) (C := RX4) (T := TX4) (N := 3) hx hb hts inX4 hown hK hP 0 rfl rfl 0 (by decide) lk9 (fun _ h9 => h9) rfl dX4_add_30 ?_
    refine lv_iconst (v := (1 : Int32)) hx hb dX4_add_33 (by decide) ?_
    refine lv_iadd hx hb dX4_add_34 ?_
    refine va_put (D := G.1) (ci := 4) (v := .int (v_size + (1 : Int32))) (ty := .int) (C := RX4) (T := TX4) (N := 3) hx hb hts inX4 tyX4 tyX4_ok nmX4 hown hK hP hD hS 0 rfl rfl 0 (by decide) lk9 (fun _ h9 => h9) rfl (by decide +kernel) rfl rfl (Nat.le_of_ble_eq_true rfl) dX4_add_35 (fun H locs hP hD hS => ?_)
    have hP : va_P G.1 vwCl [(a_this, .inr (4, [.int (v_size + (1 : Int32)), .ref a_this_stars, .ref a_this_squares])), (a_this_stars, .inl (G.2.1, 8, .inl y10)), (a_this_squares, .inl (G.2.1, 8, .inl y12))] H := hP
    have hD : va_D A [(a_this, .inr (4, [.int (v_size + (1 : Int32)), .ref a_this_stars, .ref a_this_squares])), (a_this_stars, .inl (G.2.1, 8, .inl y10)), (a_this_squares, .inl (G.2.1, 8, .inl y12))] := hD
    obtain ⟨hr0, hr1, hr2⟩ := so3 hf
    subst hr0
    subst hr1
    subst hr2
    rw [← hQ]
    exact W.vret hx hb hr (fun t ht hW => ⟨⟨rfl, by rw [ht]; exact hP⟩, hS.F ht⟩) hS.2.2 dX4_add_38
  · have hf := if_f hf hc8
    obtain ⟨hr0, hr1, hr2⟩ := so3 hf
    subst hr0
    subst hr1
    subst hr2
    rw [← hQ]
    exact W.vret hx hb hr (fun t ht hW => ⟨⟨rfl, by rw [ht]; exact hP⟩, hS.F ht⟩) hS.2.2 dX4_add_7
def f_X5_hasStar  (v_stars : Int32) (g1 : Int32) : Option (Int32) := if g1 < (0 : Int32) then (some ((0 : Int32))) else (if v_stars ≤ g1 then (some ((0 : Int32))) else (some ((1 : Int32))))
abbrev rm_X5_hasStar : Room := { frames := 0, cells := 0, slots := 0, locals := 0 }
set_option maxHeartbeats 4000000 in
set_option maxRecDepth 100000 in
theorem c_X5_hasStar (l : Launch) (G : zG) (a_this : Nat) (a_this_starts : Nat) (a_this_paces : Nat) (a_this_brights : Nat) (a_this_purses : Nat) (a_this_leases : Nat) (v_squares : Int32) (v_stars : Int32) (v_tenants : Int32) (g1 : Int32) (R0 : Int32) (hf : f_X5_hasStar v_stars g1 = some R0) : Met l yX5_hasStar wsX5_hasStar rm_X5_hasStar (va_Pc [.ref a_this, .int g1] (zR G [(a_this, .inr (5, [.int v_squares, .int v_stars, .ref a_this_starts, .ref a_this_paces, .ref a_this_brights, .int v_tenants, .ref a_this_purses, .ref a_this_leases]))])) (zSv (some (.int R0))) 0 0 (fun _ => False) := by
  refine Met.ofW (cc := cX5_hasStar) (maxL := 2) (ret := (some .boolean)) (by decide) rfl ?_
  intro p e s m args below meth c s₁ B hml hv
  obtain ⟨hargs, hP, hE⟩ := hv
  have hx := B.exec
  have hb := B.bytes
  have hr := B.returns
  have hts := atoms_spec (ws := wsX5_hasStar) B.pre
  have hown : s.vm.findClass RX5 = some m.cls := findClass_of_methodNamed B.named
  have hlocks := B.notSynchronized
  have hK := hE.1
  have hC : CallFix p m c cX5_hasStar 2 s args wsX5_hasStar RX5 := ⟨hx, hb, hml, hown, hts⟩
  have inX5 : ∀ w ∈ wsX50, w ∈ wsX5_hasStar := by decide +kernel
  have lk15 := hts (.fieldLink RX5 15 "SkyLeases$Sky" "stars" "I") (by decide +kernel)
  have hl := lv_entry ([.ref a_this, .int g1]) (n := 2) (Nat.le_of_ble_eq_true rfl)
  have hent : entryFrame m args 2 = F0 m 0 ((lg_sl ([.ref a_this, .int g1]) ++ List.replicate (2 - (lg_sl ([.ref a_this, .int g1])).length) Slot.unset).toArray) [] := by rw [hargs]; exact lg_entry_eq m [.ref a_this, .int g1] 2
  refine W.eq hent ?_
  clear hent
  generalize (lg_sl ([.ref a_this, .int g1]) ++ List.replicate (2 - (lg_sl ([.ref a_this, .int g1])).length) Slot.unset).toArray = ls at hl ⊢
  have hl : lv_has ls 2 [(0, .ref a_this), (1, .int g1)] := hl
  generalize hQ : MQ below _ args s 0 0 _ = QQ
  change W p l e rm_X5_hasStar s m args below meth c s.heap [] 0 0 QQ _
  unfold f_X5_hasStar at hf
  refine lv_iload_n hx hb dX5_hasStar_0 rfl (lv_at hl 1 rfl) ?_
  refine lv_if_lt (tgt := 16) hx hb dX5_hasStar_1 (by decide) (fun hc3 => ?_) (fun hc3 => ?_)
  · have hf := if_t hf hc3
    refine lv_iconst (v := (0 : Int32)) hx hb dX5_hasStar_16 (by decide) ?_
    have hr0 := so1 hf
    subst hr0
    rw [← hQ]
    exact W.zret (v := (0 : Int32)) hx hb hr rfl (fun t ht hW => ⟨rfl, ht⟩) (fun _ h => by cases h) dX5_hasStar_17
  · have hf := if_f hf hc3
    refine lv_iload_n hx hb dX5_hasStar_4 rfl (lv_at hl 1 rfl) ?_
    refine lv_aload_n hx hb dX5_hasStar_5 rfl (lv_at hl 0 rfl) ?_
    refine va_get (D := G.1) (ci := 5) (v := .int v_stars) (C := RX5) (T := TX5) (N := 8) hx hb hts inX5 hown hK hP 0 rfl rfl 1 (by decide) lk15 (fun _ h9 => h9) rfl dX5_hasStar_6 ?_
    refine lv_icmp_ge (tgt := 16) hx hb dX5_hasStar_9 (by decide) (fun hc4 => ?_) (fun hc4 => ?_)
    · have hf := if_t hf hc4
      refine lv_iconst (v := (0 : Int32)) hx hb dX5_hasStar_16 (by decide) ?_
      have hr0 := so1 hf
      subst hr0
      rw [← hQ]
      exact W.zret (v := (0 : Int32)) hx hb hr rfl (fun t ht hW => ⟨rfl, ht⟩) (fun _ h => by cases h) dX5_hasStar_17
    · have hf := if_f hf hc4
      refine lv_iconst (v := (1 : Int32)) hx hb dX5_hasStar_12 (by decide) ?_
      refine lv_goto (tgt := 17) hx hb dX5_hasStar_13 (by decide) ?_
      have hr0 := so1 hf
      subst hr0
      rw [← hQ]
      exact W.zret (v := (1 : Int32)) hx hb hr rfl (fun t ht hW => ⟨rfl, ht⟩) (fun _ h => by cases h) dX5_hasStar_17
def f_X5_aroundRing  (v_squares : Int32) (g1 : Int32) : Option (Int32) := if (1 : Int32) ≤ v_squares then (gd (nzB v_squares) (some ((g1 - g1 / v_squares * v_squares)))) else (some ((0 : Int32)))
abbrev rm_X5_aroundRing : Room := { frames := 0, cells := 0, slots := 0, locals := 0 }
set_option maxHeartbeats 4000000 in
set_option maxRecDepth 100000 in
theorem c_X5_aroundRing (l : Launch) (G : zG) (a_this : Nat) (a_this_starts : Nat) (a_this_paces : Nat) (a_this_brights : Nat) (a_this_purses : Nat) (a_this_leases : Nat) (v_squares : Int32) (v_stars : Int32) (v_tenants : Int32) (g1 : Int32) (R0 : Int32) (hf : f_X5_aroundRing v_squares g1 = some R0) : Met l yX5_aroundRing wsX5_aroundRing rm_X5_aroundRing (va_Pc [.ref a_this, .int g1] (zR G [(a_this, .inr (5, [.int v_squares, .int v_stars, .ref a_this_starts, .ref a_this_paces, .ref a_this_brights, .int v_tenants, .ref a_this_purses, .ref a_this_leases]))])) (zSv (some (.int R0))) 0 0 (fun _ => False) := by
  refine Met.ofW (cc := cX5_aroundRing) (maxL := 2) (ret := (some .int)) (by decide) rfl ?_
  intro p e s m args below meth c s₁ B hml hv
  obtain ⟨hargs, hP, hE⟩ := hv
  have hx := B.exec
  have hb := B.bytes
  have hr := B.returns
  have hts := atoms_spec (ws := wsX5_aroundRing) B.pre
  have hown : s.vm.findClass RX5 = some m.cls := findClass_of_methodNamed B.named
  have hlocks := B.notSynchronized
  have hK := hE.1
  have hC : CallFix p m c cX5_aroundRing 2 s args wsX5_aroundRing RX5 := ⟨hx, hb, hml, hown, hts⟩
  have inX5 : ∀ w ∈ wsX50, w ∈ wsX5_aroundRing := by decide +kernel
  have lk9 := hts (.fieldLink RX5 9 "SkyLeases$Sky" "squares" "I") (by decide +kernel)
  have hl := lv_entry ([.ref a_this, .int g1]) (n := 2) (Nat.le_of_ble_eq_true rfl)
  have hent : entryFrame m args 2 = F0 m 0 ((lg_sl ([.ref a_this, .int g1]) ++ List.replicate (2 - (lg_sl ([.ref a_this, .int g1])).length) Slot.unset).toArray) [] := by rw [hargs]; exact lg_entry_eq m [.ref a_this, .int g1] 2
  refine W.eq hent ?_
  clear hent
  generalize (lg_sl ([.ref a_this, .int g1]) ++ List.replicate (2 - (lg_sl ([.ref a_this, .int g1])).length) Slot.unset).toArray = ls at hl ⊢
  have hl : lv_has ls 2 [(0, .ref a_this), (1, .int g1)] := hl
  generalize hQ : MQ below _ args s 0 0 _ = QQ
  change W p l e rm_X5_aroundRing s m args below meth c s.heap [] 0 0 QQ _
  unfold f_X5_aroundRing at hf
  refine lv_aload_n hx hb dX5_aroundRing_0 rfl (lv_at hl 0 rfl) ?_
  refine va_get (D := G.1) (ci := 5) (v := .int v_squares) (C := RX5) (T := TX5) (N := 8) hx hb hts inX5 hown hK hP 0 rfl rfl 0 (by decide) lk9 (fun _ h9 => h9) rfl dX5_aroundRing_1 ?_
  refine lv_iconst (v := (1 : Int32)) hx hb dX5_aroundRing_4 (by decide) ?_
  refine lv_icmp_ge (tgt := 12) hx hb dX5_aroundRing_5 (by decide) (fun hc3 => ?_) (fun hc3 => ?_)
  · have hf := if_t hf hc3
    refine lv_iload_n hx hb dX5_aroundRing_12 rfl (lv_at hl 1 rfl) ?_
    refine lv_aload_n hx hb dX5_aroundRing_13 rfl (lv_at hl 0 rfl) ?_
    refine va_get (D := G.1) (ci := 5) (v := .int v_squares) (C := RX5) (T := TX5) (N := 8) hx hb hts inX5 hown hK hP 0 rfl rfl 0 (by decide) lk9 (fun _ h9 => h9) rfl dX5_aroundRing_14 ?_
    obtain ⟨hg4, hf⟩ := gd_some hf
    refine lv_irem hx hb dX5_aroundRing_17 (nzB_ne hg4) ?_
    have hr0 := so1 hf
    subst hr0
    rw [← hQ]
    exact W.iret (v := (g1 - g1 / v_squares * v_squares)) hx hb hr (fun t ht hW => ⟨rfl, ht⟩) (fun _ h => by cases h) dX5_aroundRing_18
  · have hf := if_f hf hc3
    refine lv_iconst (v := (0 : Int32)) hx hb dX5_aroundRing_8 (by decide) ?_
    refine lv_goto (tgt := 18) hx hb dX5_aroundRing_9 (by decide) ?_
    have hr0 := so1 hf
    subst hr0
    rw [← hQ]
    exact W.iret (v := (0 : Int32)) hx hb hr (fun t ht hW => ⟨rfl, ht⟩) (fun _ h => by cases h) dX5_aroundRing_18
theorem hd_X5_aroundRing : yX5_aroundRing.cls = RX5 ∧ yX5_aroundRing.cls ≠ "java/lang/invoke/MethodHandle" ∧ yX5_aroundRing.cls ≠ "java/lang/invoke/VarHandle" ∧ (parseMethodDescriptor yX5_aroundRing.desc).map (fun d => d.parameters.length) = some 1 := by decide +kernel
theorem hd_X5_hasStar : yX5_hasStar.cls = RX5 ∧ yX5_hasStar.cls ≠ "java/lang/invoke/MethodHandle" ∧ yX5_hasStar.cls ≠ "java/lang/invoke/VarHandle" ∧ (parseMethodDescriptor yX5_hasStar.desc).map (fun d => d.parameters.length) = some 1 := by decide +kernel
def f_X5_squareOf  (v_squares : Int32) (v_stars : Int32) (v_paces : (Nat → Int32)) (v_starts : (Nat → Int32)) (g1 : Int32) (g2 : Int32) : Option (Int32) := bd1 (f_X5_hasStar (v_stars) (g1)) fun r9 => if r9 = (0 : Int32) then (some ((-9 : Int32))) else (gd (inB g1 8) (if (1 : Int32) ≤ (v_paces (g1).toNatClampNeg) then (gd (inB g1 8) (gd (nzB (v_paces (g1).toNatClampNeg)) (bd1 (f_X5_aroundRing (v_squares) (((v_starts (g1).toNatClampNeg) + (g2 / (v_paces (g1).toNatClampNeg))))) fun r15 => some (r15)))) else (gd (inB g1 8) (some ((v_starts (g1).toNatClampNeg))))))
abbrev rm_X5_squareOf : Room := { frames := 1, cells := 0, slots := 0, locals := 21 }
set_option maxHeartbeats 4000000 in
set_option maxRecDepth 100000 in
theorem c_X5_squareOf (l : Launch) (G : zG) (a_this : Nat) (a_this_paces : Nat) (a_this_starts : Nat) (a_this_brights : Nat) (a_this_purses : Nat) (a_this_leases : Nat) (v_squares : Int32) (v_stars : Int32) (v_tenants : Int32) (v_paces : (Nat → Int32)) (v_starts : (Nat → Int32)) (g1 : Int32) (g2 : Int32) (R0 : Int32) (hf : f_X5_squareOf v_squares v_stars v_paces v_starts g1 g2 = some R0) : Met l yX5_squareOf wsX5_squareOf rm_X5_squareOf (va_Pc [.ref a_this, .int g1, .int g2] (zR G [(a_this, .inr (5, [.int v_squares, .int v_stars, .ref a_this_starts, .ref a_this_paces, .ref a_this_brights, .int v_tenants, .ref a_this_purses, .ref a_this_leases])), (a_this_paces, .inl (G.2.1, 8, .inl v_paces)), (a_this_starts, .inl (G.2.1, 8, .inl v_starts))])) (zSv (some (.int R0))) 0 0 (fun _ => False) := by
  refine Met.ofW (cc := cX5_squareOf) (maxL := 4) (ret := (some .int)) (by decide) rfl ?_
  intro p e s m args below meth c s₁ B hml hv
  obtain ⟨hargs, hP, hE⟩ := hv
  have hx := B.exec
  have hb := B.bytes
  have hr := B.returns
  have hts := atoms_spec (ws := wsX5_squareOf) B.pre
  have hown : s.vm.findClass RX5 = some m.cls := findClass_of_methodNamed B.named
  have hlocks := B.notSynchronized
  have hK := hE.1
  have hC : CallFix p m c cX5_squareOf 4 s args wsX5_squareOf RX5 := ⟨hx, hb, hml, hown, hts⟩
  have inX5 : ∀ w ∈ wsX50, w ∈ wsX5_squareOf := by decide +kernel
  have lk18 := hts (.fieldLink RX5 18 "SkyLeases$Sky" "starts" "[I") (by decide +kernel)
  have lk22 := hts (.fieldLink RX5 22 "SkyLeases$Sky" "paces" "[I") (by decide +kernel)
  have hl := lv_entry ([.ref a_this, .int g1, .int g2]) (n := 4) (Nat.le_of_ble_eq_true rfl)
  have hent : entryFrame m args 4 = F0 m 0 ((lg_sl ([.ref a_this, .int g1, .int g2]) ++ List.replicate (4 - (lg_sl ([.ref a_this, .int g1, .int g2])).length) Slot.unset).toArray) [] := by rw [hargs]; exact lg_entry_eq m [.ref a_this, .int g1, .int g2] 4
  refine W.eq hent ?_
  clear hent
  generalize (lg_sl ([.ref a_this, .int g1, .int g2]) ++ List.replicate (4 - (lg_sl ([.ref a_this, .int g1, .int g2])).length) Slot.unset).toArray = ls at hl ⊢
  have hl : lv_has ls 4 [(0, .ref a_this), (1, .int g1), (2, .int g2)] := hl
  generalize hQ : MQ below _ args s 0 0 _ = QQ
  change W p l e rm_X5_squareOf s m args below meth c s.heap [] 0 0 QQ _
  unfold f_X5_squareOf at hf
  refine lv_aload_n hx hb dX5_squareOf_0 rfl (lv_at hl 0 rfl) ?_
  refine lv_iload_n hx hb dX5_squareOf_1 rfl (lv_at hl 1 rfl) ?_
  obtain ⟨r9, hu, hf⟩ := bd1_some hf
  refine zRi (va_runV (As := [.int g1]) (rest := []) hC (c_X5_hasStar l G a_this a_this_starts a_this_paces a_this_brights a_this_purses a_this_leases (v_squares) (v_stars) (v_tenants) (g1) r9 hu) (cwV 1 hts gX5_squareOf_X5_hasStar rfl rfl rfl hd_X5_hasStar ⟨(Nat.le_of_ble_eq_true rfl), (Nat.le_of_ble_eq_true rfl)⟩) (zPV hE hP [0] rfl 0 rfl rfl) rfl rfl hl.1 rfl (lv_room (Nat.le_of_ble_eq_true rfl)) dX5_squareOf_2 ⟨Nat.zero_le _, Nat.zero_le _⟩) ?_
  refine lv_if_ne (tgt := 11) hx hb dX5_squareOf_5 (by decide) (fun hc10 => ?_) (fun hc10 => ?_)
  · have hf := if_f hf hc10
    refine lv_aload_n hx hb dX5_squareOf_11 rfl (lv_at hl 0 rfl) ?_
    refine va_get (D := G.1) (ci := 5) (v := .ref a_this_paces) (C := RX5) (T := TX5) (N := 8) hx hb hts inX5 hown hK hP 0 rfl rfl 3 (by decide) lk22 (fun _ h9 => h9) rfl dX5_squareOf_12 ?_
    refine lv_iload_n hx hb dX5_squareOf_15 rfl (lv_at hl 1 rfl) ?_
    obtain ⟨hg11, hf⟩ := gd_some hf
    refine va_iald hx hb hK hP 1 0 rfl rfl (inB_in hg11) dX5_squareOf_16 ?_
    refine lv_istore_n (lv' := [(3, .int (v_paces (g1).toNatClampNeg)), (0, .ref a_this), (1, .int g1), (2, .int g2)]) hx hb dX5_squareOf_17 rfl hl (by decide) rfl (fun ls hl => ?_)
    refine lv_iload_n hx hb dX5_squareOf_18 rfl (lv_at hl 0 rfl) ?_
    refine lv_iconst (v := (1 : Int32)) hx hb dX5_squareOf_19 (by decide) ?_
    refine lv_icmp_ge (tgt := 32) hx hb dX5_squareOf_20 (by decide) (fun hc12 => ?_) (fun hc12 => ?_)
    · have hf := if_t hf hc12
      refine lv_aload_n hx hb dX5_squareOf_32 rfl (lv_at hl 1 rfl) ?_
      refine lv_aload_n hx hb dX5_squareOf_33 rfl (lv_at hl 1 rfl) ?_
      refine va_get (D := G.1) (ci := 5) (v := .ref a_this_starts) (C := RX5) (T := TX5) (N := 8) hx hb hts inX5 hown hK hP 0 rfl rfl 2 (by decide) lk18 (fun _ h9 => h9) rfl dX5_squareOf_34 ?_
      refine lv_iload_n hx hb dX5_squareOf_37 rfl (lv_at hl 2 rfl) ?_
      obtain ⟨hg13, hf⟩ := gd_some hf
      refine va_iald hx hb hK hP 2 0 rfl rfl (inB_in hg13) dX5_squareOf_38 ?_
      refine lv_iload_n hx hb dX5_squareOf_39 rfl (lv_at hl 3 rfl) ?_
      refine lv_iload_n hx hb dX5_squareOf_40 rfl (lv_at hl 0 rfl) ?_
      obtain ⟨hg14, hf⟩ := gd_some hf
      refine lv_idiv hx hb dX5_squareOf_41 (nzB_ne hg14) ?_
      refine lv_iadd hx hb dX5_squareOf_42 ?_
      obtain ⟨r15, hu, hf⟩ := bd1_some hf
      refine zRi (va_runV (As := [.int ((v_starts (g1).toNatClampNeg) + (g2 / (v_paces (g1).toNatClampNeg)))]) (rest := []) hC (c_X5_aroundRing l G a_this a_this_starts a_this_paces a_this_brights a_this_purses a_this_leases (v_squares) (v_stars) (v_tenants) (((v_starts (g1).toNatClampNeg) + (g2 / (v_paces (g1).toNatClampNeg)))) r15 hu) (cwV 1 hts gX5_squareOf_X5_aroundRing rfl rfl rfl hd_X5_aroundRing ⟨(Nat.le_of_ble_eq_true rfl), (Nat.le_of_ble_eq_true rfl)⟩) (zPV hE hP [0] rfl 0 rfl rfl) rfl rfl hl.1 rfl (lv_room (Nat.le_of_ble_eq_true rfl)) dX5_squareOf_43 ⟨Nat.zero_le _, Nat.zero_le _⟩) ?_
      have hr0 := so1 hf
      subst hr0
      rw [← hQ]
      exact W.iret (v := r15) hx hb hr (fun t ht hW => ⟨rfl, ht⟩) (fun _ h => by cases h) dX5_squareOf_46
    · have hf := if_f hf hc12
      refine lv_aload_n hx hb dX5_squareOf_23 rfl (lv_at hl 1 rfl) ?_
      refine va_get (D := G.1) (ci := 5) (v := .ref a_this_starts) (C := RX5) (T := TX5) (N := 8) hx hb hts inX5 hown hK hP 0 rfl rfl 2 (by decide) lk18 (fun _ h9 => h9) rfl dX5_squareOf_24 ?_
      refine lv_iload_n hx hb dX5_squareOf_27 rfl (lv_at hl 2 rfl) ?_
      obtain ⟨hg16, hf⟩ := gd_some hf
      refine va_iald hx hb hK hP 2 0 rfl rfl (inB_in hg16) dX5_squareOf_28 ?_
      refine lv_goto (tgt := 46) hx hb dX5_squareOf_29 (by decide) ?_
      have hr0 := so1 hf
      subst hr0
      rw [← hQ]
      exact W.iret (v := (v_starts (g1).toNatClampNeg)) hx hb hr (fun t ht hW => ⟨rfl, ht⟩) (fun _ h => by cases h) dX5_squareOf_46
  · have hf := if_t hf hc10
    refine lv_bipush (v := (-9 : Int32)) hx hb dX5_squareOf_8 (by decide) ?_
    have hr0 := so1 hf
    subst hr0
    rw [← hQ]
    exact W.iret (v := (-9 : Int32)) hx hb hr (fun t ht hW => ⟨rfl, ht⟩) (fun _ h => by cases h) dX5_squareOf_10
theorem hd_X5_squareOf : yX5_squareOf.cls = RX5 ∧ yX5_squareOf.cls ≠ "java/lang/invoke/MethodHandle" ∧ yX5_squareOf.cls ≠ "java/lang/invoke/VarHandle" ∧ (parseMethodDescriptor yX5_squareOf.desc).map (fun d => d.parameters.length) = some 2 := by decide +kernel
def f_X4_fits_b2 (v_size : Int32) (v_p1_squares : Int32) (v_p1_stars : Int32) (v_stars : (Nat → Int32)) (v_p1_paces : (Nat → Int32)) (v_p1_starts : (Nat → Int32)) (v_squares : (Nat → Int32))  (x2 : Int32) : Nat → Int32 → Option (Int32)
  | 0, _ => none
  | n2 + 1, x3 => if v_size ≤ x3 then (some ((1 : Int32))) else (gd (inB x3 8) (bd1 (f_X5_squareOf (v_p1_squares) (v_p1_stars) (v_p1_paces) (v_p1_starts) ((v_stars (x3).toNatClampNeg)) (x2)) fun r8 => gd (inB x3 8) (if r8 = (v_squares (x3).toNatClampNeg) then (f_X4_fits_b2 v_size v_p1_squares v_p1_stars v_stars v_p1_paces v_p1_starts v_squares x2 n2 ((x3 + (1 : Int32)))) else (some ((0 : Int32))))))
def f_X4_fits  (v_size : Int32) (v_p1_squares : Int32) (v_p1_stars : Int32) (v_stars : (Nat → Int32)) (v_p1_paces : (Nat → Int32)) (v_p1_starts : (Nat → Int32)) (v_squares : (Nat → Int32)) (g2 : Int32) : Option (Int32) := f_X4_fits_b2 v_size v_p1_squares v_p1_stars v_stars v_p1_paces v_p1_starts v_squares (g2) zF ((0 : Int32))
abbrev rm_X4_fits : Room := { frames := 2, cells := 0, slots := 0, locals := 44 }
set_option maxHeartbeats 4000000 in
set_option maxRecDepth 100000 in
theorem c_X4_fits (l : Launch) (G : zG) (a_this : Nat) (a_p1 : Nat) (a_this_stars : Nat) (a_p1_paces : Nat) (a_p1_starts : Nat) (a_this_squares : Nat) (a_p1_brights : Nat) (a_p1_purses : Nat) (a_p1_leases : Nat) (v_size : Int32) (v_p1_squares : Int32) (v_p1_stars : Int32) (v_p1_tenants : Int32) (v_stars : (Nat → Int32)) (v_p1_paces : (Nat → Int32)) (v_p1_starts : (Nat → Int32)) (v_squares : (Nat → Int32)) (g2 : Int32) (R0 : Int32) (hf : f_X4_fits v_size v_p1_squares v_p1_stars v_stars v_p1_paces v_p1_starts v_squares g2 = some R0) : Met l yX4_fits wsX4_fits rm_X4_fits (va_Pc [.ref a_this, .ref a_p1, .int g2] (zR G [(a_this, .inr (4, [.int v_size, .ref a_this_stars, .ref a_this_squares])), (a_p1, .inr (5, [.int v_p1_squares, .int v_p1_stars, .ref a_p1_starts, .ref a_p1_paces, .ref a_p1_brights, .int v_p1_tenants, .ref a_p1_purses, .ref a_p1_leases])), (a_this_stars, .inl (G.2.1, 8, .inl v_stars)), (a_p1_paces, .inl (G.2.1, 8, .inl v_p1_paces)), (a_p1_starts, .inl (G.2.1, 8, .inl v_p1_starts)), (a_this_squares, .inl (G.2.1, 8, .inl v_squares))])) (zSv (some (.int R0))) 0 0 (fun _ => False) := by
  refine Met.ofW (cc := cX4_fits) (maxL := 4) (ret := (some .boolean)) (by decide) rfl ?_
  intro p e s m args below meth c s₁ B hml hv
  obtain ⟨hargs, hP, hE⟩ := hv
  have hx := B.exec
  have hb := B.bytes
  have hr := B.returns
  have hts := atoms_spec (ws := wsX4_fits) B.pre
  have hown : s.vm.findClass RX4 = some m.cls := findClass_of_methodNamed B.named
  have hlocks := B.notSynchronized
  have hK := hE.1
  have hC : CallFix p m c cX4_fits 4 s args wsX4_fits RX4 := ⟨hx, hb, hml, hown, hts⟩
  have inX4 : ∀ w ∈ wsX40, w ∈ wsX4_fits := by decide +kernel
  have lk9 := hts (.fieldLink RX4 9 "SkyLeases$Seen" "size" "I") (by decide +kernel)
  have lk15 := hts (.fieldLink RX4 15 "SkyLeases$Seen" "stars" "[I") (by decide +kernel)
  have lk19 := hts (.fieldLink RX4 19 "SkyLeases$Seen" "squares" "[I") (by decide +kernel)
  have hl := lv_entry ([.ref a_this, .ref a_p1, .int g2]) (n := 4) (Nat.le_of_ble_eq_true rfl)
  have hent : entryFrame m args 4 = F0 m 0 ((lg_sl ([.ref a_this, .ref a_p1, .int g2]) ++ List.replicate (4 - (lg_sl ([.ref a_this, .ref a_p1, .int g2])).length) Slot.unset).toArray) [] := by rw [hargs]; exact lg_entry_eq m [.ref a_this, .ref a_p1, .int g2] 4
  refine W.eq hent ?_
  clear hent
  generalize (lg_sl ([.ref a_this, .ref a_p1, .int g2]) ++ List.replicate (4 - (lg_sl ([.ref a_this, .ref a_p1, .int g2])).length) Slot.unset).toArray = ls at hl ⊢
  have hl : lv_has ls 4 [(0, .ref a_this), (1, .ref a_p1), (2, .int g2)] := hl
  generalize hQ : MQ below _ args s 0 0 _ = QQ
  change W p l e rm_X4_fits s m args below meth c s.heap [] 0 0 QQ _
  have j2 : ∀ (x2 : Int32), ∀ (nn : Nat), ∀ (x3 : Int32), ∀ (ls : Array Slot), lv_has ls 4 [(0, .ref a_this), (1, .ref a_p1), (2, .int x2), (3, .int x3)] → f_X4_fits_b2 v_size v_p1_squares v_p1_stars v_stars v_p1_paces v_p1_starts v_squares x2 nn x3 = some R0 → W p l e rm_X4_fits s m args below meth c s.heap [] 0 0 QQ (F0 m 2 ls []) := by
    intro x2
    intro nn
    induction nn with
    | zero =>
      intro x3 ls hl hf
      rw [f_X4_fits_b2] at hf
      cases hf
    | succ n2 ih =>
      intro x3 ls hl hf
      rw [f_X4_fits_b2] at hf
      refine lv_iload_n hx hb dX4_fits_2 rfl (lv_at hl 3 rfl) ?_
      refine lv_aload_n hx hb dX4_fits_3 rfl (lv_at hl 0 rfl) ?_
      refine va_get (D := G.1) (ci := 4) (v := .int v_size) (C := RX4) (T := TX4) (N := 3) hx hb hts inX4 hown hK hP 0 rfl rfl 0 (by decide) lk9 (fun _ h9 => h9) rfl dX4_fits_4 ?_
      refine lv_icmp_ge (tgt := 38) hx hb dX4_fits_7 (by decide) (fun hc6 => ?_) (fun hc6 => ?_)
      · have hf := if_t hf hc6
        refine lv_iconst (v := (1 : Int32)) hx hb dX4_fits_38 (by decide) ?_
        have hr0 := so1 hf
        subst hr0
        rw [← hQ]
        exact W.zret (v := (1 : Int32)) hx hb hr rfl (fun t ht hW => ⟨rfl, ht⟩) (fun _ h => by cases h) dX4_fits_39
      · have hf := if_f hf hc6
        refine lv_aload_n hx hb dX4_fits_10 rfl (lv_at hl 1 rfl) ?_
        refine lv_aload_n hx hb dX4_fits_11 rfl (lv_at hl 0 rfl) ?_
        refine va_get (D := G.1) (ci := 4) (v := .ref a_this_stars) (C := RX4) (T := TX4) (N := 3) hx hb hts inX4 hown hK hP 0 rfl rfl 1 (by decide) lk15 (fun _ h9 => h9) rfl dX4_fits_12 ?_
        refine lv_iload_n hx hb dX4_fits_15 rfl (lv_at hl 3 rfl) ?_
        obtain ⟨hg7, hf⟩ := gd_some hf
        refine va_iald hx hb hK hP 2 0 rfl rfl (inB_in hg7) dX4_fits_16 ?_
        refine lv_iload_n hx hb dX4_fits_17 rfl (lv_at hl 2 rfl) ?_
        obtain ⟨r8, hu, hf⟩ := bd1_some hf
        refine zRi (va_runV (As := [.int (v_stars (x3).toNatClampNeg), .int x2]) (rest := []) hC (c_X5_squareOf l G a_p1 a_p1_paces a_p1_starts a_p1_brights a_p1_purses a_p1_leases (v_p1_squares) (v_p1_stars) (v_p1_tenants) (v_p1_paces) (v_p1_starts) ((v_stars (x3).toNatClampNeg)) (x2) r8 hu) (cwV 2 hts gX4_fits_X5_squareOf rfl rfl rfl hd_X5_squareOf ⟨(Nat.le_of_ble_eq_true rfl), (Nat.le_of_ble_eq_true rfl)⟩) (zPV hE hP [1, 3, 4] rfl 1 rfl rfl) rfl rfl hl.1 rfl (lv_room (Nat.le_of_ble_eq_true rfl)) dX4_fits_18 ⟨Nat.zero_le _, Nat.zero_le _⟩) ?_
        refine lv_aload_n hx hb dX4_fits_21 rfl (lv_at hl 0 rfl) ?_
        refine va_get (D := G.1) (ci := 4) (v := .ref a_this_squares) (C := RX4) (T := TX4) (N := 3) hx hb hts inX4 hown hK hP 0 rfl rfl 2 (by decide) lk19 (fun _ h9 => h9) rfl dX4_fits_22 ?_
        refine lv_iload_n hx hb dX4_fits_25 rfl (lv_at hl 3 rfl) ?_
        obtain ⟨hg9, hf⟩ := gd_some hf
        refine va_iald hx hb hK hP 5 0 rfl rfl (inB_in hg9) dX4_fits_26 ?_
        refine lv_icmp_eq (tgt := 32) hx hb dX4_fits_27 (by decide) (fun hc10 => ?_) (fun hc10 => ?_)
        · have hf := if_t hf hc10
          refine lv_iinc (v := (x3 + (1 : Int32))) (lv' := [(3, .int (x3 + (1 : Int32))), (0, .ref a_this), (1, .ref a_p1), (2, .int x2)]) hx hb dX4_fits_32 hl (k := 3) rfl rfl (by decide) rfl (fun ls hl => ?_)
          refine lv_goto (tgt := 2) hx hb dX4_fits_35 (by decide) ?_
          exact ih ((x3 + (1 : Int32))) ls (lv_sub hl [1, 2, 3, 0] rfl) hf
        · have hf := if_f hf hc10
          refine lv_iconst (v := (0 : Int32)) hx hb dX4_fits_30 (by decide) ?_
          have hr0 := so1 hf
          subst hr0
          rw [← hQ]
          exact W.zret (v := (0 : Int32)) hx hb hr rfl (fun t ht hW => ⟨rfl, ht⟩) (fun _ h => by cases h) dX4_fits_31
  unfold f_X4_fits at hf
  refine lv_iconst (v := (0 : Int32)) hx hb dX4_fits_0 (by decide) ?_
  refine lv_istore_n (lv' := [(3, .int (0 : Int32)), (0, .ref a_this), (1, .ref a_p1), (2, .int g2)]) hx hb dX4_fits_1 rfl hl (by decide) rfl (fun ls hl => ?_)
  exact j2 (g2) zF ((0 : Int32)) ls (lv_sub hl [1, 2, 3, 0] rfl) hf
theorem hd_X6_removeAt : yX6_removeAt.cls = RX6 ∧ yX6_removeAt.cls ≠ "java/lang/invoke/MethodHandle" ∧ yX6_removeAt.cls ≠ "java/lang/invoke/VarHandle" ∧ (parseMethodDescriptor yX6_removeAt.desc).map (fun d => d.parameters.length) = some 1 := by decide +kernel
def f_X2_loseOldestIfFull  (v_rows_most : Int32) (v_rows_size : Int32) (v_rows_parts : (Nat → Int32)) (v_places : (Nat → Int32))  : Option (Int32 × (Nat → Int32) × (Nat → Int32)) := bd1 (f_X6_isFull (v_rows_most) (v_rows_size)) fun r7 => if r7 = (0 : Int32) then (some (v_rows_size, v_rows_parts, v_places)) else (bd2 (f_X6_removeAt (v_rows_size) (v_rows_parts) ((0 : Int32))) fun w9 w10 => gd (cpB (1 : Int32) (0 : Int32) (5 : Int32) 6 6) (nm (va_cpy v_places v_places ((1 : Int32)).toNatClampNeg ((0 : Int32)).toNatClampNeg ((5 : Int32)).toNatClampNeg) fun y12 => some (w9, w10, y12)))
abbrev rm_X2_loseOldestIfFull : Room := { frames := 2, cells := 0, slots := 0, locals := 54 }
set_option maxHeartbeats 4000000 in
set_option maxRecDepth 100000 in
theorem c_X2_loseOldestIfFull (l : Launch) (G : zG) (sz : Nat) (a_this : Nat) (a_this_rows : Nat) (a_this_rows_parts : Nat) (a_this_places : Nat) (v_rows_most : Int32) (v_rows_size : Int32) (v_rows_parts : (Nat → Int32)) (v_places : (Nat → Int32)) (R1 : Int32) (R2 : (Nat → Int32)) (R3 : (Nat → Int32)) (hf : f_X2_loseOldestIfFull v_rows_most v_rows_size v_rows_parts v_places = some (R1, R2, R3)) : Met l yX2_loseOldestIfFull wsX2_loseOldestIfFull rm_X2_loseOldestIfFull (va_Pc [.ref a_this] (zB G [(a_this, .inr (2, [.ref a_this_rows, .ref a_this_places])), (a_this_rows, .inr (6, [.int v_rows_most, .ref a_this_rows_parts, .int v_rows_size])), (a_this_rows_parts, .inl (G.2.1, 50, .inl v_rows_parts)), (a_this_places, .inl (G.2.1, 6, .inl v_places))] sz)) (zQ G none [(a_this, .inr (2, [.ref a_this_rows, .ref a_this_places])), (a_this_rows, .inr (6, [.int v_rows_most, .ref a_this_rows_parts, .int R1])), (a_this_rows_parts, .inl (G.2.1, 50, .inl R2)), (a_this_places, .inl (G.2.1, 6, .inl R3))] (va_A [(a_this, .inr (2, [.ref a_this_rows, .ref a_this_places])), (a_this_rows, .inr (6, [.int v_rows_most, .ref a_this_rows_parts, .int v_rows_size])), (a_this_rows_parts, .inl (G.2.1, 50, .inl v_rows_parts)), (a_this_places, .inl (G.2.1, 6, .inl v_places))] sz)) 0 0 (va_A [(a_this, .inr (2, [.ref a_this_rows, .ref a_this_places])), (a_this_rows, .inr (6, [.int v_rows_most, .ref a_this_rows_parts, .int v_rows_size])), (a_this_rows_parts, .inl (G.2.1, 50, .inl v_rows_parts)), (a_this_places, .inl (G.2.1, 6, .inl v_places))] sz) := by
  refine Met.ofW (cc := cX2_loseOldestIfFull) (maxL := 1) (ret := none) (by decide) rfl ?_
  intro p e s m args below meth c s₁ B hml hv
  obtain ⟨hargs, hsz, hP, hD0, hE⟩ := hv
  have hx := B.exec
  have hb := B.bytes
  have hr := B.returns
  have hts := atoms_spec (ws := wsX2_loseOldestIfFull) B.pre
  have hown : s.vm.findClass RX2 = some m.cls := findClass_of_methodNamed B.named
  have hlocks := B.notSynchronized
  have hK := hE.1
  have hC : CallFix p m c cX2_loseOldestIfFull 1 s args wsX2_loseOldestIfFull RX2 := ⟨hx, hb, hml, hown, hts⟩
  have inX2 : ∀ w ∈ wsX20, w ∈ wsX2_loseOldestIfFull := by decide +kernel
  have lk14 := hts (.fieldLink RX2 14 "SkyLeases$Past" "rows" "LSkyLeases$Terms;") (by decide +kernel)
  have lk20 := hts (.fieldLink RX2 20 "SkyLeases$Past" "places" "[I") (by decide +kernel)
  subst hsz
  have hD := hD0.self (sz := s.heap.size)
  generalize hAe : va_A [(a_this, .inr (2, [.ref a_this_rows, .ref a_this_places])), (a_this_rows, .inr (6, [.int v_rows_most, .ref a_this_rows_parts, .int v_rows_size])), (a_this_rows_parts, .inl (G.2.1, 50, .inl v_rows_parts)), (a_this_places, .inl (G.2.1, 6, .inl v_places))] s.heap.size = A at hD ⊢
  have hA : ∀ q : Nat, s.heap.size ≤ q → A q := fun q h => by rw [← hAe]; exact Or.inr h
  have hS : va_S A s.heap s.heap [] := va_S.rf
  have hP : va_P G.1 vwCl [(a_this, .inr (2, [.ref a_this_rows, .ref a_this_places])), (a_this_rows, .inr (6, [.int v_rows_most, .ref a_this_rows_parts, .int v_rows_size])), (a_this_rows_parts, .inl (G.2.1, 50, .inl v_rows_parts)), (a_this_places, .inl (G.2.1, 6, .inl v_places))] s.heap := hP
  have hl := lv_entry ([.ref a_this]) (n := 1) (Nat.le_of_ble_eq_true rfl)
  have hent : entryFrame m args 1 = F0 m 0 ((lg_sl ([.ref a_this]) ++ List.replicate (1 - (lg_sl ([.ref a_this])).length) Slot.unset).toArray) [] := by rw [hargs]; exact lg_entry_eq m [.ref a_this] 1
  refine W.eq hent ?_
  clear hent
  generalize (lg_sl ([.ref a_this]) ++ List.replicate (1 - (lg_sl ([.ref a_this])).length) Slot.unset).toArray = ls at hl ⊢
  have hl : lv_has ls 1 [(0, .ref a_this)] := hl
  generalize hQ : MQ below _ args s 0 0 _ = QQ
  change W p l e rm_X2_loseOldestIfFull s m args below meth c s.heap [] 0 0 QQ _
  have hSH := hS
  unfold f_X2_loseOldestIfFull at hf
  refine lv_aload_n hx hb dX2_loseOldestIfFull_0 rfl (lv_at hl 0 rfl) ?_
  refine va_get (D := G.1) (ci := 2) (v := .ref a_this_rows) (C := RX2) (T := TX2) (N := 2) hx hb hts inX2 hown hK hP 0 rfl rfl 0 (by decide) lk14 (fun _ h9 => h9) rfl dX2_loseOldestIfFull_1 ?_
  obtain ⟨r7, hu, hf⟩ := bd1_some hf
  refine zRi (va_runV (As := []) (rest := []) hC (c_X6_isFull l G a_this_rows a_this_rows_parts (v_rows_most) (v_rows_size) r7 hu) (cwV 0 hts gX2_loseOldestIfFull_X6_isFull rfl rfl rfl hd_X6_isFull ⟨(Nat.le_of_ble_eq_true rfl), (Nat.le_of_ble_eq_true rfl)⟩) (zPV hE hP [1] rfl 1 rfl rfl) rfl rfl hl.1 rfl (lv_room (Nat.le_of_ble_eq_true rfl)) dX2_loseOldestIfFull_4 ⟨Nat.zero_le _, Nat.zero_le _⟩) ?_
  refine lv_if_eq (tgt := 32) hx hb dX2_loseOldestIfFull_7 (by decide) (fun hc8 => ?_) (fun hc8 => ?_)
  · have hf := if_t hf hc8
    obtain ⟨hr0, hr1, hr2⟩ := so3 hf
    subst hr0
    subst hr1
    subst hr2
    rw [← hQ]
    exact W.vret hx hb hr (fun t ht hW => ⟨⟨rfl, by rw [ht]; exact hP⟩, hS.F ht⟩) hS.2.2 dX2_loseOldestIfFull_32
  · have hf := if_f hf hc8
    refine lv_aload_n hx hb dX2_loseOldestIfFull_10 rfl (lv_at hl 0 rfl) ?_
    refine va_get (D := G.1) (ci := 2) (v := .ref a_this_rows) (C := RX2) (T := TX2) (N := 2) hx hb hts inX2 hown hK hP 0 rfl rfl 0 (by decide) lk14 (fun _ h9 => h9) rfl dX2_loseOldestIfFull_11 ?_
    refine lv_iconst (v := (0 : Int32)) hx hb dX2_loseOldestIfFull_14 (by decide) ?_
    obtain ⟨w9, w10, hu, hf⟩ := bd2_some hf
    refine zWn (wr := [(a_this, .inr (2, [.ref a_this_rows, .ref a_this_places])), (a_this_places, .inl (G.2.1, 6, .inl v_places))]) (ws2 := [(a_this, .inr (2, [.ref a_this_rows, .ref a_this_places])), (a_this_rows, .inr (6, [.int v_rows_most, .ref a_this_rows_parts, .int w9])), (a_this_rows_parts, .inl (G.2.1, 50, .inl w10)), (a_this_places, .inl (G.2.1, 6, .inl v_places))]) (va_runV (As := [.int (0 : Int32)]) (rest := []) hC (c_X6_removeAt l G _ a_this_rows a_this_rows_parts (v_rows_most) (v_rows_size) (v_rows_parts) ((0 : Int32)) w9 w10 hu) (cwV 1 hts gX2_loseOldestIfFull_X6_removeAt rfl rfl rfl hd_X6_removeAt ⟨(Nat.le_of_ble_eq_true rfl), (Nat.le_of_ble_eq_true rfl)⟩) (zPVw hE hP hD [1, 2] rfl rfl 1 rfl rfl) rfl rfl hl.1 rfl (lv_room (Nat.le_of_ble_eq_true rfl)) dX2_loseOldestIfFull_15 ⟨Nat.zero_le _, Nat.zero_le _⟩) hP hD hS hA [1, 2] [0, 3] [0, 2, 3, 1] rfl rfl rfl rfl (by decide) rfl rfl rfl (fun H locs hP hD hS => ?_)
    refine lv_aload_n hx hb dX2_loseOldestIfFull_18 rfl (lv_at hl 0 rfl) ?_
    refine va_get (D := G.1) (ci := 2) (v := .ref a_this_places) (C := RX2) (T := TX2) (N := 2) hx hb hts inX2 hown hK hP 0 rfl rfl 1 (by decide) lk20 (fun _ h9 => h9) rfl dX2_loseOldestIfFull_19 ?_
    refine lv_iconst (v := (1 : Int32)) hx hb dX2_loseOldestIfFull_22 (by decide) ?_
    refine lv_aload_n hx hb dX2_loseOldestIfFull_23 rfl (lv_at hl 0 rfl) ?_
    refine va_get (D := G.1) (ci := 2) (v := .ref a_this_places) (C := RX2) (T := TX2) (N := 2) hx hb hts inX2 hown hK hP 0 rfl rfl 1 (by decide) lk20 (fun _ h9 => h9) rfl dX2_loseOldestIfFull_24 ?_
    refine lv_iconst (v := (0 : Int32)) hx hb dX2_loseOldestIfFull_27 (by decide) ?_
    refine lv_iconst (v := (5 : Int32)) hx hb dX2_loseOldestIfFull_28 (by decide) ?_
    obtain ⟨hg11, hf⟩ := gd_some hf
    refine z_copyi hx hb (by rw [hml]; exact hl.1.symm) hown (hts (.methodLink RX2 50 arraycopyName) (by decide +kernel)) (hts (.native arraycopyName) (by decide +kernel)) (hts (.static arraycopyName) (by decide +kernel)) (hts (.initialized "java/lang/System") (by decide +kernel)) hK hP hD hS 3 3 rfl rfl hg11 (Nat.le_of_ble_eq_true rfl) (Nat.le_of_ble_eq_true rfl) dX2_loseOldestIfFull_29 (fun gg => [(a_this, .inr (2, [.ref a_this_rows, .ref a_this_places])), (a_this_rows, .inr (6, [.int v_rows_most, .ref a_this_rows_parts, .int w9])), (a_this_rows_parts, .inl (G.2.1, 50, .inl w10)), (a_this_places, .inl (G.2.1, 6, .inl gg))]) (fun gg => rfl) (fun y12 H locs ey12 hP hD hS => ?_)
    have hf := nm_to hf ey12
    have hP : va_P G.1 vwCl [(a_this, .inr (2, [.ref a_this_rows, .ref a_this_places])), (a_this_rows, .inr (6, [.int v_rows_most, .ref a_this_rows_parts, .int w9])), (a_this_rows_parts, .inl (G.2.1, 50, .inl w10)), (a_this_places, .inl (G.2.1, 6, .inl y12))] H := hP
    have hD : va_D A [(a_this, .inr (2, [.ref a_this_rows, .ref a_this_places])), (a_this_rows, .inr (6, [.int v_rows_most, .ref a_this_rows_parts, .int w9])), (a_this_rows_parts, .inl (G.2.1, 50, .inl w10)), (a_this_places, .inl (G.2.1, 6, .inl y12))] := hD
    obtain ⟨hr0, hr1, hr2⟩ := so3 hf
    subst hr0
    subst hr1
    subst hr2
    rw [← hQ]
    exact W.vret hx hb hr (fun t ht hW => ⟨⟨rfl, by rw [ht]; exact hP⟩, hS.F ht⟩) hS.2.2 dX2_loseOldestIfFull_32
theorem hd_X2_loseOldestIfFull : yX2_loseOldestIfFull.cls = RX2 ∧ yX2_loseOldestIfFull.cls ≠ "java/lang/invoke/MethodHandle" ∧ yX2_loseOldestIfFull.cls ≠ "java/lang/invoke/VarHandle" ∧ (parseMethodDescriptor yX2_loseOldestIfFull.desc).map (fun d => d.parameters.length) = some 0 := by decide +kernel
theorem hd_X6_add : yX6_add.cls = RX6 ∧ yX6_add.cls ≠ "java/lang/invoke/MethodHandle" ∧ yX6_add.cls ≠ "java/lang/invoke/VarHandle" ∧ (parseMethodDescriptor yX6_add.desc).map (fun d => d.parameters.length) = some 5 := by decide +kernel
def f_X2_noteBegun  (v_rows_most : Int32) (v_rows_size : Int32) (v_rows_parts : (Nat → Int32)) (v_places : (Nat → Int32))  : Option (Int32 × (Nat → Int32) × (Nat → Int32)) := bd3 (f_X2_loseOldestIfFull (v_rows_most) (v_rows_size) (v_rows_parts) (v_places)) fun w8 w9 w10 => gd (inB w8 6) (nm (upd w10 (w8).toNatClampNeg (-1 : Int32)) fun y12 => bd2 (f_X6_add (v_rows_most) (w8) (w9) ((0 : Int32)) ((0 : Int32)) ((0 : Int32)) ((0 : Int32)) ((0 : Int32))) fun w13 w14 => some (w13, w14, y12))
abbrev rm_X2_noteBegun : Room := { frames := 3, cells := 0, slots := 0, locals := 74 }
set_option maxHeartbeats 4000000 in
set_option maxRecDepth 100000 in
theorem c_X2_noteBegun (l : Launch) (G : zG) (sz : Nat) (a_this : Nat) (a_this_rows : Nat) (a_this_rows_parts : Nat) (a_this_places : Nat) (v_rows_most : Int32) (v_rows_size : Int32) (v_rows_parts : (Nat → Int32)) (v_places : (Nat → Int32)) (R1 : Int32) (R2 : (Nat → Int32)) (R3 : (Nat → Int32)) (hf : f_X2_noteBegun v_rows_most v_rows_size v_rows_parts v_places = some (R1, R2, R3)) : Met l yX2_noteBegun wsX2_noteBegun rm_X2_noteBegun (va_Pc [.ref a_this] (zB G [(a_this, .inr (2, [.ref a_this_rows, .ref a_this_places])), (a_this_rows, .inr (6, [.int v_rows_most, .ref a_this_rows_parts, .int v_rows_size])), (a_this_rows_parts, .inl (G.2.1, 50, .inl v_rows_parts)), (a_this_places, .inl (G.2.1, 6, .inl v_places))] sz)) (zQ G none [(a_this, .inr (2, [.ref a_this_rows, .ref a_this_places])), (a_this_rows, .inr (6, [.int v_rows_most, .ref a_this_rows_parts, .int R1])), (a_this_rows_parts, .inl (G.2.1, 50, .inl R2)), (a_this_places, .inl (G.2.1, 6, .inl R3))] (va_A [(a_this, .inr (2, [.ref a_this_rows, .ref a_this_places])), (a_this_rows, .inr (6, [.int v_rows_most, .ref a_this_rows_parts, .int v_rows_size])), (a_this_rows_parts, .inl (G.2.1, 50, .inl v_rows_parts)), (a_this_places, .inl (G.2.1, 6, .inl v_places))] sz)) 0 0 (va_A [(a_this, .inr (2, [.ref a_this_rows, .ref a_this_places])), (a_this_rows, .inr (6, [.int v_rows_most, .ref a_this_rows_parts, .int v_rows_size])), (a_this_rows_parts, .inl (G.2.1, 50, .inl v_rows_parts)), (a_this_places, .inl (G.2.1, 6, .inl v_places))] sz) := by
  refine Met.ofW (cc := cX2_noteBegun) (maxL := 1) (ret := none) (by decide) rfl ?_
  intro p e s m args below meth c s₁ B hml hv
  obtain ⟨hargs, hsz, hP, hD0, hE⟩ := hv
  have hx := B.exec
  have hb := B.bytes
  have hr := B.returns
  have hts := atoms_spec (ws := wsX2_noteBegun) B.pre
  have hown : s.vm.findClass RX2 = some m.cls := findClass_of_methodNamed B.named
  have hlocks := B.notSynchronized
  have hK := hE.1
  have hC : CallFix p m c cX2_noteBegun 1 s args wsX2_noteBegun RX2 := ⟨hx, hb, hml, hown, hts⟩
  have inX2 : ∀ w ∈ wsX20, w ∈ wsX2_noteBegun := by decide +kernel
  have inX6 : ∀ w ∈ wsX60, w ∈ wsX2_noteBegun := by decide +kernel
  have lk14 := hts (.fieldLink RX2 14 "SkyLeases$Past" "rows" "LSkyLeases$Terms;") (by decide +kernel)
  have lk20 := hts (.fieldLink RX2 20 "SkyLeases$Past" "places" "[I") (by decide +kernel)
  have lk27 := hts (.fieldLink RX2 27 "SkyLeases$Terms" "size" "I") (by decide +kernel)
  subst hsz
  have hD := hD0.self (sz := s.heap.size)
  generalize hAe : va_A [(a_this, .inr (2, [.ref a_this_rows, .ref a_this_places])), (a_this_rows, .inr (6, [.int v_rows_most, .ref a_this_rows_parts, .int v_rows_size])), (a_this_rows_parts, .inl (G.2.1, 50, .inl v_rows_parts)), (a_this_places, .inl (G.2.1, 6, .inl v_places))] s.heap.size = A at hD ⊢
  have hA : ∀ q : Nat, s.heap.size ≤ q → A q := fun q h => by rw [← hAe]; exact Or.inr h
  have hS : va_S A s.heap s.heap [] := va_S.rf
  have hP : va_P G.1 vwCl [(a_this, .inr (2, [.ref a_this_rows, .ref a_this_places])), (a_this_rows, .inr (6, [.int v_rows_most, .ref a_this_rows_parts, .int v_rows_size])), (a_this_rows_parts, .inl (G.2.1, 50, .inl v_rows_parts)), (a_this_places, .inl (G.2.1, 6, .inl v_places))] s.heap := hP
  have hl := lv_entry ([.ref a_this]) (n := 1) (Nat.le_of_ble_eq_true rfl)
  have hent : entryFrame m args 1 = F0 m 0 ((lg_sl ([.ref a_this]) ++ List.replicate (1 - (lg_sl ([.ref a_this])).length) Slot.unset).toArray) [] := by rw [hargs]; exact lg_entry_eq m [.ref a_this] 1
  refine W.eq hent ?_
  clear hent
  generalize (lg_sl ([.ref a_this]) ++ List.replicate (1 - (lg_sl ([.ref a_this])).length) Slot.unset).toArray = ls at hl ⊢
  have hl : lv_has ls 1 [(0, .ref a_this)] := hl
  generalize hQ : MQ below _ args s 0 0 _ = QQ
  change W p l e rm_X2_noteBegun s m args below meth c s.heap [] 0 0 QQ _
  have hSH := hS
  unfold f_X2_noteBegun at hf
  refine lv_aload_n hx hb dX2_noteBegun_0 rfl (lv_at hl 0 rfl) ?_
  obtain ⟨w8, w9, w10, hu, hf⟩ := bd3_some hf
  refine zWn (wr := []) (ws2 := [(a_this, .inr (2, [.ref a_this_rows, .ref a_this_places])), (a_this_rows, .inr (6, [.int v_rows_most, .ref a_this_rows_parts, .int w8])), (a_this_rows_parts, .inl (G.2.1, 50, .inl w9)), (a_this_places, .inl (G.2.1, 6, .inl w10))]) (va_runV (As := []) (rest := []) hC (c_X2_loseOldestIfFull l G _ a_this a_this_rows a_this_rows_parts a_this_places (v_rows_most) (v_rows_size) (v_rows_parts) (v_places) w8 w9 w10 hu) (cwV 0 hts gX2_noteBegun_X2_loseOldestIfFull rfl rfl rfl hd_X2_loseOldestIfFull ⟨(Nat.le_of_ble_eq_true rfl), (Nat.le_of_ble_eq_true rfl)⟩) (zPVw hE hP hD [0, 1, 2, 3] rfl rfl 0 rfl rfl) rfl rfl hl.1 rfl (lv_room (Nat.le_of_ble_eq_true rfl)) dX2_noteBegun_1 ⟨Nat.zero_le _, Nat.zero_le _⟩) hP hD hS hA [0, 1, 2, 3] [] [0, 1, 2, 3] rfl rfl rfl rfl (by decide) rfl rfl rfl (fun H locs hP hD hS => ?_)
  refine lv_aload_n hx hb dX2_noteBegun_4 rfl (lv_at hl 0 rfl) ?_
  refine va_get (D := G.1) (ci := 2) (v := .ref a_this_places) (C := RX2) (T := TX2) (N := 2) hx hb hts inX2 hown hK hP 0 rfl rfl 1 (by decide) lk20 (fun _ h9 => h9) rfl dX2_noteBegun_5 ?_
  refine lv_aload_n hx hb dX2_noteBegun_8 rfl (lv_at hl 0 rfl) ?_
  refine va_get (D := G.1) (ci := 2) (v := .ref a_this_rows) (C := RX2) (T := TX2) (N := 2) hx hb hts inX2 hown hK hP 0 rfl rfl 0 (by decide) lk14 (fun _ h9 => h9) rfl dX2_noteBegun_9 ?_
  refine va_get (D := G.1) (ci := 6) (v := .int w8) (C := RX6) (T := TX6) (N := 3) hx hb hts inX6 hown hK hP 1 rfl rfl 2 (by decide) lk27 (fun _ h9 => h9) rfl dX2_noteBegun_12 ?_
  refine lv_iconst (v := (-1 : Int32)) hx hb dX2_noteBegun_15 (by decide) ?_
  obtain ⟨hg11, hf⟩ := gd_some hf
  refine z_iast hx hb hK hP hD hS 3 0 rfl rfl (inB_in hg11) dX2_noteBegun_16 (fun gg => [(a_this, .inr (2, [.ref a_this_rows, .ref a_this_places])), (a_this_rows, .inr (6, [.int v_rows_most, .ref a_this_rows_parts, .int w8])), (a_this_rows_parts, .inl (G.2.1, 50, .inl w9)), (a_this_places, .inl (G.2.1, 6, .inl gg))]) (fun gg => rfl) (fun y12 H locs ey12 hP hD hS => ?_)
  have hf := nm_to hf ey12
  have hP : va_P G.1 vwCl [(a_this, .inr (2, [.ref a_this_rows, .ref a_this_places])), (a_this_rows, .inr (6, [.int v_rows_most, .ref a_this_rows_parts, .int w8])), (a_this_rows_parts, .inl (G.2.1, 50, .inl w9)), (a_this_places, .inl (G.2.1, 6, .inl y12))] H := hP
  have hD : va_D A [(a_this, .inr (2, [.ref a_this_rows, .ref a_this_places])), (a_this_rows, .inr (6, [.int v_rows_most, .ref a_this_rows_parts, .int w8])), (a_this_rows_parts, .inl (G.2.1, 50, .inl w9)), (a_this_places, .inl (G.2.1, 6, .inl y12))] := hD
  refine lv_aload_n hx hb dX2_noteBegun_17 rfl (lv_at hl 0 rfl) ?_
  refine va_get (D := G.1) (ci := 2) (v := .ref a_this_rows) (C := RX2) (T := TX2) (N := 2) hx hb hts inX2 hown hK hP 0 rfl rfl 0 (by decide) lk14 (fun _ h9 => h9) rfl dX2_noteBegun_18 ?_
  refine lv_iconst (v := (0 : Int32)) hx hb dX2_noteBegun_21 (by decide) ?_
  refine lv_iconst (v := (0 : Int32)) hx hb dX2_noteBegun_22 (by decide) ?_
  refine lv_iconst (v := (0 : Int32)) hx hb dX2_noteBegun_23 (by decide) ?_
  refine lv_iconst (v := (0 : Int32)) hx hb dX2_noteBegun_24 (by decide) ?_
  refine lv_iconst (v := (0 : Int32)) hx hb dX2_noteBegun_25 (by decide) ?_
  obtain ⟨w13, w14, hu, hf⟩ := bd2_some hf
  refine zWn (wr := [(a_this, .inr (2, [.ref a_this_rows, .ref a_this_places])), (a_this_places, .inl (G.2.1, 6, .inl y12))]) (ws2 := [(a_this, .inr (2, [.ref a_this_rows, .ref a_this_places])), (a_this_rows, .inr (6, [.int v_rows_most, .ref a_this_rows_parts, .int w13])), (a_this_rows_parts, .inl (G.2.1, 50, .inl w14)), (a_this_places, .inl (G.2.1, 6, .inl y12))]) (va_runV (As := [.int (0 : Int32), .int (0 : Int32), .int (0 : Int32), .int (0 : Int32), .int (0 : Int32)]) (rest := []) hC (c_X6_add l G _ a_this_rows a_this_rows_parts (v_rows_most) (w8) (w9) ((0 : Int32)) ((0 : Int32)) ((0 : Int32)) ((0 : Int32)) ((0 : Int32)) w13 w14 hu) (cwV 5 hts gX2_noteBegun_X6_add rfl rfl rfl hd_X6_add ⟨(Nat.le_of_ble_eq_true rfl), (Nat.le_of_ble_eq_true rfl)⟩) (zPVw hE hP hD [1, 2] rfl rfl 1 rfl rfl) rfl rfl hl.1 rfl (lv_room (Nat.le_of_ble_eq_true rfl)) dX2_noteBegun_26 ⟨Nat.zero_le _, Nat.zero_le _⟩) hP hD hS hA [1, 2] [0, 3] [0, 2, 3, 1] rfl rfl rfl rfl (by decide) rfl rfl rfl (fun H locs hP hD hS => ?_)
  obtain ⟨hr0, hr1, hr2⟩ := so3 hf
  subst hr0
  subst hr1
  subst hr2
  rw [← hQ]
  exact W.vret hx hb hr (fun t ht hW => ⟨⟨rfl, by rw [ht]; exact hP⟩, hS.F ht⟩) hS.2.2 dX2_noteBegun_29
theorem hd_X6_insertFrom : yX6_insertFrom.cls = RX6 ∧ yX6_insertFrom.cls ≠ "java/lang/invoke/MethodHandle" ∧ yX6_insertFrom.cls ≠ "java/lang/invoke/VarHandle" ∧ (parseMethodDescriptor yX6_insertFrom.desc).map (fun d => d.parameters.length) = some 3 := by decide +kernel
def f_X2_noteEnded  (v_p1_size : Int32) (v_rows_most : Int32) (v_rows_size : Int32) (v_rows_parts : (Nat → Int32)) (v_places : (Nat → Int32)) (v_p1_parts : (Nat → Int32)) (g2 : Int32) : Option (Int32 × (Nat → Int32) × (Nat → Int32)) := bd3 (f_X2_loseOldestIfFull (v_rows_most) (v_rows_size) (v_rows_parts) (v_places)) fun w8 w9 w10 => gd (inB w8 6) (nm (upd w10 (w8).toNatClampNeg g2) fun y12 => bd2 (f_X6_insertFrom (v_rows_most) (w8) (v_p1_size) (w9) (v_p1_parts) (g2) (w8)) fun w13 w14 => some (w13, w14, y12))
abbrev rm_X2_noteEnded : Room := { frames := 3, cells := 0, slots := 0, locals := 74 }
set_option maxHeartbeats 4000000 in
set_option maxRecDepth 100000 in
theorem c_X2_noteEnded (l : Launch) (G : zG) (sz : Nat) (a_this : Nat) (a_p1 : Nat) (a_this_rows : Nat) (a_this_rows_parts : Nat) (a_this_places : Nat) (a_p1_parts : Nat) (v_p1_most : Int32) (v_p1_size : Int32) (v_rows_most : Int32) (v_rows_size : Int32) (v_rows_parts : (Nat → Int32)) (v_places : (Nat → Int32)) (v_p1_parts : (Nat → Int32)) (g2 : Int32) (R1 : Int32) (R2 : (Nat → Int32)) (R3 : (Nat → Int32)) (hf : f_X2_noteEnded v_p1_size v_rows_most v_rows_size v_rows_parts v_places v_p1_parts g2 = some (R1, R2, R3)) : Met l yX2_noteEnded wsX2_noteEnded rm_X2_noteEnded (va_Pc [.ref a_this, .ref a_p1, .int g2] (zB G [(a_this, .inr (2, [.ref a_this_rows, .ref a_this_places])), (a_p1, .inr (6, [.int v_p1_most, .ref a_p1_parts, .int v_p1_size])), (a_this_rows, .inr (6, [.int v_rows_most, .ref a_this_rows_parts, .int v_rows_size])), (a_this_rows_parts, .inl (G.2.1, 50, .inl v_rows_parts)), (a_this_places, .inl (G.2.1, 6, .inl v_places)), (a_p1_parts, .inl (G.2.1, 50, .inl v_p1_parts))] sz)) (zQ G none [(a_this, .inr (2, [.ref a_this_rows, .ref a_this_places])), (a_p1, .inr (6, [.int v_p1_most, .ref a_p1_parts, .int v_p1_size])), (a_this_rows, .inr (6, [.int v_rows_most, .ref a_this_rows_parts, .int R1])), (a_this_rows_parts, .inl (G.2.1, 50, .inl R2)), (a_this_places, .inl (G.2.1, 6, .inl R3)), (a_p1_parts, .inl (G.2.1, 50, .inl v_p1_parts))] (va_A [(a_this, .inr (2, [.ref a_this_rows, .ref a_this_places])), (a_p1, .inr (6, [.int v_p1_most, .ref a_p1_parts, .int v_p1_size])), (a_this_rows, .inr (6, [.int v_rows_most, .ref a_this_rows_parts, .int v_rows_size])), (a_this_rows_parts, .inl (G.2.1, 50, .inl v_rows_parts)), (a_this_places, .inl (G.2.1, 6, .inl v_places)), (a_p1_parts, .inl (G.2.1, 50, .inl v_p1_parts))] sz)) 0 0 (va_A [(a_this, .inr (2, [.ref a_this_rows, .ref a_this_places])), (a_p1, .inr (6, [.int v_p1_most, .ref a_p1_parts, .int v_p1_size])), (a_this_rows, .inr (6, [.int v_rows_most, .ref a_this_rows_parts, .int v_rows_size])), (a_this_rows_parts, .inl (G.2.1, 50, .inl v_rows_parts)), (a_this_places, .inl (G.2.1, 6, .inl v_places)), (a_p1_parts, .inl (G.2.1, 50, .inl v_p1_parts))] sz) := by
  refine Met.ofW (cc := cX2_noteEnded) (maxL := 3) (ret := none) (by decide) rfl ?_
  intro p e s m args below meth c s₁ B hml hv
  obtain ⟨hargs, hsz, hP, hD0, hE⟩ := hv
  have hx := B.exec
  have hb := B.bytes
  have hr := B.returns
  have hts := atoms_spec (ws := wsX2_noteEnded) B.pre
  have hown : s.vm.findClass RX2 = some m.cls := findClass_of_methodNamed B.named
  have hlocks := B.notSynchronized
  have hK := hE.1
  have hC : CallFix p m c cX2_noteEnded 3 s args wsX2_noteEnded RX2 := ⟨hx, hb, hml, hown, hts⟩
  have inX2 : ∀ w ∈ wsX20, w ∈ wsX2_noteEnded := by decide +kernel
  have inX6 : ∀ w ∈ wsX60, w ∈ wsX2_noteEnded := by decide +kernel
  have lk14 := hts (.fieldLink RX2 14 "SkyLeases$Past" "rows" "LSkyLeases$Terms;") (by decide +kernel)
  have lk20 := hts (.fieldLink RX2 20 "SkyLeases$Past" "places" "[I") (by decide +kernel)
  have lk27 := hts (.fieldLink RX2 27 "SkyLeases$Terms" "size" "I") (by decide +kernel)
  subst hsz
  have hD := hD0.self (sz := s.heap.size)
  generalize hAe : va_A [(a_this, .inr (2, [.ref a_this_rows, .ref a_this_places])), (a_p1, .inr (6, [.int v_p1_most, .ref a_p1_parts, .int v_p1_size])), (a_this_rows, .inr (6, [.int v_rows_most, .ref a_this_rows_parts, .int v_rows_size])), (a_this_rows_parts, .inl (G.2.1, 50, .inl v_rows_parts)), (a_this_places, .inl (G.2.1, 6, .inl v_places)), (a_p1_parts, .inl (G.2.1, 50, .inl v_p1_parts))] s.heap.size = A at hD ⊢
  have hA : ∀ q : Nat, s.heap.size ≤ q → A q := fun q h => by rw [← hAe]; exact Or.inr h
  have hS : va_S A s.heap s.heap [] := va_S.rf
  have hP : va_P G.1 vwCl [(a_this, .inr (2, [.ref a_this_rows, .ref a_this_places])), (a_p1, .inr (6, [.int v_p1_most, .ref a_p1_parts, .int v_p1_size])), (a_this_rows, .inr (6, [.int v_rows_most, .ref a_this_rows_parts, .int v_rows_size])), (a_this_rows_parts, .inl (G.2.1, 50, .inl v_rows_parts)), (a_this_places, .inl (G.2.1, 6, .inl v_places)), (a_p1_parts, .inl (G.2.1, 50, .inl v_p1_parts))] s.heap := hP
  have hl := lv_entry ([.ref a_this, .ref a_p1, .int g2]) (n := 3) (Nat.le_of_ble_eq_true rfl)
  have hent : entryFrame m args 3 = F0 m 0 ((lg_sl ([.ref a_this, .ref a_p1, .int g2]) ++ List.replicate (3 - (lg_sl ([.ref a_this, .ref a_p1, .int g2])).length) Slot.unset).toArray) [] := by rw [hargs]; exact lg_entry_eq m [.ref a_this, .ref a_p1, .int g2] 3
  refine W.eq hent ?_
  clear hent
  generalize (lg_sl ([.ref a_this, .ref a_p1, .int g2]) ++ List.replicate (3 - (lg_sl ([.ref a_this, .ref a_p1, .int g2])).length) Slot.unset).toArray = ls at hl ⊢
  have hl : lv_has ls 3 [(0, .ref a_this), (1, .ref a_p1), (2, .int g2)] := hl
  generalize hQ : MQ below _ args s 0 0 _ = QQ
  change W p l e rm_X2_noteEnded s m args below meth c s.heap [] 0 0 QQ _
  have hSH := hS
  unfold f_X2_noteEnded at hf
  refine lv_aload_n hx hb dX2_noteEnded_0 rfl (lv_at hl 0 rfl) ?_
  obtain ⟨w8, w9, w10, hu, hf⟩ := bd3_some hf
  refine zWn (wr := [(a_p1, .inr (6, [.int v_p1_most, .ref a_p1_parts, .int v_p1_size])), (a_p1_parts, .inl (G.2.1, 50, .inl v_p1_parts))]) (ws2 := [(a_this, .inr (2, [.ref a_this_rows, .ref a_this_places])), (a_p1, .inr (6, [.int v_p1_most, .ref a_p1_parts, .int v_p1_size])), (a_this_rows, .inr (6, [.int v_rows_most, .ref a_this_rows_parts, .int w8])), (a_this_rows_parts, .inl (G.2.1, 50, .inl w9)), (a_this_places, .inl (G.2.1, 6, .inl w10)), (a_p1_parts, .inl (G.2.1, 50, .inl v_p1_parts))]) (va_runV (As := []) (rest := []) hC (c_X2_loseOldestIfFull l G _ a_this a_this_rows a_this_rows_parts a_this_places (v_rows_most) (v_rows_size) (v_rows_parts) (v_places) w8 w9 w10 hu) (cwV 0 hts gX2_noteEnded_X2_loseOldestIfFull rfl rfl rfl hd_X2_loseOldestIfFull ⟨(Nat.le_of_ble_eq_true rfl), (Nat.le_of_ble_eq_true rfl)⟩) (zPVw hE hP hD [0, 2, 3, 4] rfl rfl 0 rfl rfl) rfl rfl hl.1 rfl (lv_room (Nat.le_of_ble_eq_true rfl)) dX2_noteEnded_1 ⟨Nat.zero_le _, Nat.zero_le _⟩) hP hD hS hA [0, 2, 3, 4] [1, 5] [2, 0, 3, 4, 5, 1] rfl rfl rfl rfl (by decide) rfl rfl rfl (fun H locs hP hD hS => ?_)
  refine lv_aload_n hx hb dX2_noteEnded_4 rfl (lv_at hl 0 rfl) ?_
  refine va_get (D := G.1) (ci := 2) (v := .ref a_this_places) (C := RX2) (T := TX2) (N := 2) hx hb hts inX2 hown hK hP 0 rfl rfl 1 (by decide) lk20 (fun _ h9 => h9) rfl dX2_noteEnded_5 ?_
  refine lv_aload_n hx hb dX2_noteEnded_8 rfl (lv_at hl 0 rfl) ?_
  refine va_get (D := G.1) (ci := 2) (v := .ref a_this_rows) (C := RX2) (T := TX2) (N := 2) hx hb hts inX2 hown hK hP 0 rfl rfl 0 (by decide) lk14 (fun _ h9 => h9) rfl dX2_noteEnded_9 ?_
  refine va_get (D := G.1) (ci := 6) (v := .int w8) (C := RX6) (T := TX6) (N := 3) hx hb hts inX6 hown hK hP 2 rfl rfl 2 (by decide) lk27 (fun _ h9 => h9) rfl dX2_noteEnded_12 ?_
  refine lv_iload_n hx hb dX2_noteEnded_15 rfl (lv_at hl 2 rfl) ?_
  obtain ⟨hg11, hf⟩ := gd_some hf
  refine z_iast hx hb hK hP hD hS 4 0 rfl rfl (inB_in hg11) dX2_noteEnded_16 (fun gg => [(a_this, .inr (2, [.ref a_this_rows, .ref a_this_places])), (a_p1, .inr (6, [.int v_p1_most, .ref a_p1_parts, .int v_p1_size])), (a_this_rows, .inr (6, [.int v_rows_most, .ref a_this_rows_parts, .int w8])), (a_this_rows_parts, .inl (G.2.1, 50, .inl w9)), (a_this_places, .inl (G.2.1, 6, .inl gg)), (a_p1_parts, .inl (G.2.1, 50, .inl v_p1_parts))]) (fun gg => rfl) (fun y12 H locs ey12 hP hD hS => ?_)
  have hf := nm_to hf ey12
  have hP : va_P G.1 vwCl [(a_this, .inr (2, [.ref a_this_rows, .ref a_this_places])), (a_p1, .inr (6, [.int v_p1_most, .ref a_p1_parts, .int v_p1_size])), (a_this_rows, .inr (6, [.int v_rows_most, .ref a_this_rows_parts, .int w8])), (a_this_rows_parts, .inl (G.2.1, 50, .inl w9)), (a_this_places, .inl (G.2.1, 6, .inl y12)), (a_p1_parts, .inl (G.2.1, 50, .inl v_p1_parts))] H := hP
  have hD : va_D A [(a_this, .inr (2, [.ref a_this_rows, .ref a_this_places])), (a_p1, .inr (6, [.int v_p1_most, .ref a_p1_parts, .int v_p1_size])), (a_this_rows, .inr (6, [.int v_rows_most, .ref a_this_rows_parts, .int w8])), (a_this_rows_parts, .inl (G.2.1, 50, .inl w9)), (a_this_places, .inl (G.2.1, 6, .inl y12)), (a_p1_parts, .inl (G.2.1, 50, .inl v_p1_parts))] := hD
  refine lv_aload_n hx hb dX2_noteEnded_17 rfl (lv_at hl 0 rfl) ?_
  refine va_get (D := G.1) (ci := 2) (v := .ref a_this_rows) (C := RX2) (T := TX2) (N := 2) hx hb hts inX2 hown hK hP 0 rfl rfl 0 (by decide) lk14 (fun _ h9 => h9) rfl dX2_noteEnded_18 ?_
  refine lv_aload_n hx hb dX2_noteEnded_21 rfl (lv_at hl 1 rfl) ?_
  refine lv_iload_n hx hb dX2_noteEnded_22 rfl (lv_at hl 2 rfl) ?_
  refine lv_aload_n hx hb dX2_noteEnded_23 rfl (lv_at hl 0 rfl) ?_
  refine va_get (D := G.1) (ci := 2) (v := .ref a_this_rows) (C := RX2) (T := TX2) (N := 2) hx hb hts inX2 hown hK hP 0 rfl rfl 0 (by decide) lk14 (fun _ h9 => h9) rfl dX2_noteEnded_24 ?_
  refine va_get (D := G.1) (ci := 6) (v := .int w8) (C := RX6) (T := TX6) (N := 3) hx hb hts inX6 hown hK hP 2 rfl rfl 2 (by decide) lk27 (fun _ h9 => h9) rfl dX2_noteEnded_27 ?_
  obtain ⟨w13, w14, hu, hf⟩ := bd2_some hf
  refine zWn (wr := [(a_this, .inr (2, [.ref a_this_rows, .ref a_this_places])), (a_this_places, .inl (G.2.1, 6, .inl y12))]) (ws2 := [(a_this, .inr (2, [.ref a_this_rows, .ref a_this_places])), (a_p1, .inr (6, [.int v_p1_most, .ref a_p1_parts, .int v_p1_size])), (a_this_rows, .inr (6, [.int v_rows_most, .ref a_this_rows_parts, .int w13])), (a_this_rows_parts, .inl (G.2.1, 50, .inl w14)), (a_this_places, .inl (G.2.1, 6, .inl y12)), (a_p1_parts, .inl (G.2.1, 50, .inl v_p1_parts))]) (va_runV (As := [.ref a_p1, .int g2, .int w8]) (rest := []) hC (c_X6_insertFrom l G _ a_this_rows a_p1 a_this_rows_parts a_p1_parts (v_rows_most) (w8) (v_p1_most) (v_p1_size) (w9) (v_p1_parts) (g2) (w8) w13 w14 hu) (cwV 3 hts gX2_noteEnded_X6_insertFrom rfl rfl rfl hd_X6_insertFrom ⟨(Nat.le_of_ble_eq_true rfl), (Nat.le_of_ble_eq_true rfl)⟩) (zPVw hE hP hD [2, 1, 3, 5] rfl rfl 2 rfl rfl) rfl rfl hl.1 rfl (lv_room (Nat.le_of_ble_eq_true rfl)) dX2_noteEnded_30 ⟨Nat.zero_le _, Nat.zero_le _⟩) hP hD hS hA [2, 1, 3, 5] [0, 4] [0, 3, 2, 4, 1, 5] rfl rfl rfl rfl (by decide) rfl rfl rfl (fun H locs hP hD hS => ?_)
  obtain ⟨hr0, hr1, hr2⟩ := so3 hf
  subst hr0
  subst hr1
  subst hr2
  rw [← hQ]
  exact W.vret hx hb hr (fun t ht hW => ⟨⟨rfl, by rw [ht]; exact hP⟩, hS.F ht⟩) hS.2.2 dX2_noteEnded_33
def f_X2_undoLatest_b60    (x2 : Int32) (v_p1_size : Int32) (v_rows_size : Int32) (v_p1_parts : (Nat → Int32)) (v_rows_parts : (Nat → Int32)) : Option (Int32 × Int32 × (Nat → Int32) × (Nat → Int32)) := bd2 (f_X6_removeAt (v_rows_size) (v_rows_parts) (x2)) fun w12 w13 => some (v_p1_size, w12, v_p1_parts, w13)
def f_X2_undoLatest  (v_p1_most : Int32) (v_p1_size : Int32) (v_rows_size : Int32) (v_places : (Nat → Int32)) (v_p1_parts : (Nat → Int32)) (v_rows_parts : (Nat → Int32))  : Option (Int32 × Int32 × (Nat → Int32) × (Nat → Int32)) := bd1 (f_X6_has (v_rows_size) ((v_rows_size - (1 : Int32)))) fun r14 => if r14 = (0 : Int32) then (some (v_p1_size, v_rows_size, v_p1_parts, v_rows_parts)) else (gd (inB (v_rows_size - (1 : Int32)) 6) (if (v_places ((v_rows_size - (1 : Int32))).toNatClampNeg) = (-1 : Int32) then (bd2 (f_X6_removeAt (v_p1_size) (v_p1_parts) ((v_p1_size - (1 : Int32)))) fun w21 w22 => f_X2_undoLatest_b60 ((v_rows_size - (1 : Int32))) (w21) (v_rows_size) (w22) (v_rows_parts)) else (gd (inB (v_rows_size - (1 : Int32)) 6) (bd2 (f_X6_insertFrom (v_p1_most) (v_p1_size) (v_rows_size) (v_p1_parts) (v_rows_parts) ((v_rows_size - (1 : Int32))) ((v_places ((v_rows_size - (1 : Int32))).toNatClampNeg))) fun w19 w20 => f_X2_undoLatest_b60 ((v_rows_size - (1 : Int32))) (w19) (v_rows_size) (w20) (v_rows_parts)))))
abbrev rm_X2_undoLatest : Room := { frames := 2, cells := 0, slots := 0, locals := 56 }
set_option maxHeartbeats 4000000 in
set_option maxRecDepth 100000 in
theorem c_X2_undoLatest (l : Launch) (G : zG) (sz : Nat) (a_this : Nat) (a_p1 : Nat) (a_this_rows : Nat) (a_this_places : Nat) (a_p1_parts : Nat) (a_this_rows_parts : Nat) (v_p1_most : Int32) (v_p1_size : Int32) (v_rows_most : Int32) (v_rows_size : Int32) (v_places : (Nat → Int32)) (v_p1_parts : (Nat → Int32)) (v_rows_parts : (Nat → Int32)) (R1 : Int32) (R2 : Int32) (R3 : (Nat → Int32)) (R4 : (Nat → Int32)) (hf : f_X2_undoLatest v_p1_most v_p1_size v_rows_size v_places v_p1_parts v_rows_parts = some (R1, R2, R3, R4)) : Met l yX2_undoLatest wsX2_undoLatest rm_X2_undoLatest (va_Pc [.ref a_this, .ref a_p1] (zB G [(a_this, .inr (2, [.ref a_this_rows, .ref a_this_places])), (a_p1, .inr (6, [.int v_p1_most, .ref a_p1_parts, .int v_p1_size])), (a_this_rows, .inr (6, [.int v_rows_most, .ref a_this_rows_parts, .int v_rows_size])), (a_this_places, .inl (G.2.1, 6, .inl v_places)), (a_p1_parts, .inl (G.2.1, 50, .inl v_p1_parts)), (a_this_rows_parts, .inl (G.2.1, 50, .inl v_rows_parts))] sz)) (zQ G none [(a_this, .inr (2, [.ref a_this_rows, .ref a_this_places])), (a_p1, .inr (6, [.int v_p1_most, .ref a_p1_parts, .int R1])), (a_this_rows, .inr (6, [.int v_rows_most, .ref a_this_rows_parts, .int R2])), (a_this_places, .inl (G.2.1, 6, .inl v_places)), (a_p1_parts, .inl (G.2.1, 50, .inl R3)), (a_this_rows_parts, .inl (G.2.1, 50, .inl R4))] (va_A [(a_this, .inr (2, [.ref a_this_rows, .ref a_this_places])), (a_p1, .inr (6, [.int v_p1_most, .ref a_p1_parts, .int v_p1_size])), (a_this_rows, .inr (6, [.int v_rows_most, .ref a_this_rows_parts, .int v_rows_size])), (a_this_places, .inl (G.2.1, 6, .inl v_places)), (a_p1_parts, .inl (G.2.1, 50, .inl v_p1_parts)), (a_this_rows_parts, .inl (G.2.1, 50, .inl v_rows_parts))] sz)) 0 0 (va_A [(a_this, .inr (2, [.ref a_this_rows, .ref a_this_places])), (a_p1, .inr (6, [.int v_p1_most, .ref a_p1_parts, .int v_p1_size])), (a_this_rows, .inr (6, [.int v_rows_most, .ref a_this_rows_parts, .int v_rows_size])), (a_this_places, .inl (G.2.1, 6, .inl v_places)), (a_p1_parts, .inl (G.2.1, 50, .inl v_p1_parts)), (a_this_rows_parts, .inl (G.2.1, 50, .inl v_rows_parts))] sz) := by
  refine Met.ofW (cc := cX2_undoLatest) (maxL := 3) (ret := none) (by decide) rfl ?_
  intro p e s m args below meth c s₁ B hml hv
  obtain ⟨hargs, hsz, hP, hD0, hE⟩ := hv
  have hx := B.exec
  have hb := B.bytes
  have hr := B.returns
  have hts := atoms_spec (ws := wsX2_undoLatest) B.pre
  have hown : s.vm.findClass RX2 = some m.cls := findClass_of_methodNamed B.named
  have hlocks := B.notSynchronized
  have hK := hE.1
  have hC : CallFix p m c cX2_undoLatest 3 s args wsX2_undoLatest RX2 := ⟨hx, hb, hml, hown, hts⟩
  have inX2 : ∀ w ∈ wsX20, w ∈ wsX2_undoLatest := by decide +kernel
  have inX6 : ∀ w ∈ wsX60, w ∈ wsX2_undoLatest := by decide +kernel
  have lk14 := hts (.fieldLink RX2 14 "SkyLeases$Past" "rows" "LSkyLeases$Terms;") (by decide +kernel)
  have lk20 := hts (.fieldLink RX2 20 "SkyLeases$Past" "places" "[I") (by decide +kernel)
  have lk27 := hts (.fieldLink RX2 27 "SkyLeases$Terms" "size" "I") (by decide +kernel)
  subst hsz
  have hD := hD0.self (sz := s.heap.size)
  generalize hAe : va_A [(a_this, .inr (2, [.ref a_this_rows, .ref a_this_places])), (a_p1, .inr (6, [.int v_p1_most, .ref a_p1_parts, .int v_p1_size])), (a_this_rows, .inr (6, [.int v_rows_most, .ref a_this_rows_parts, .int v_rows_size])), (a_this_places, .inl (G.2.1, 6, .inl v_places)), (a_p1_parts, .inl (G.2.1, 50, .inl v_p1_parts)), (a_this_rows_parts, .inl (G.2.1, 50, .inl v_rows_parts))] s.heap.size = A at hD ⊢
  have hA : ∀ q : Nat, s.heap.size ≤ q → A q := fun q h => by rw [← hAe]; exact Or.inr h
  have hS : va_S A s.heap s.heap [] := va_S.rf
  have hP : va_P G.1 vwCl [(a_this, .inr (2, [.ref a_this_rows, .ref a_this_places])), (a_p1, .inr (6, [.int v_p1_most, .ref a_p1_parts, .int v_p1_size])), (a_this_rows, .inr (6, [.int v_rows_most, .ref a_this_rows_parts, .int v_rows_size])), (a_this_places, .inl (G.2.1, 6, .inl v_places)), (a_p1_parts, .inl (G.2.1, 50, .inl v_p1_parts)), (a_this_rows_parts, .inl (G.2.1, 50, .inl v_rows_parts))] s.heap := hP
  have hl := lv_entry ([.ref a_this, .ref a_p1]) (n := 3) (Nat.le_of_ble_eq_true rfl)
  have hent : entryFrame m args 3 = F0 m 0 ((lg_sl ([.ref a_this, .ref a_p1]) ++ List.replicate (3 - (lg_sl ([.ref a_this, .ref a_p1])).length) Slot.unset).toArray) [] := by rw [hargs]; exact lg_entry_eq m [.ref a_this, .ref a_p1] 3
  refine W.eq hent ?_
  clear hent
  generalize (lg_sl ([.ref a_this, .ref a_p1]) ++ List.replicate (3 - (lg_sl ([.ref a_this, .ref a_p1])).length) Slot.unset).toArray = ls at hl ⊢
  have hl : lv_has ls 3 [(0, .ref a_this), (1, .ref a_p1)] := hl
  generalize hQ : MQ below _ args s 0 0 _ = QQ
  change W p l e rm_X2_undoLatest s m args below meth c s.heap [] 0 0 QQ _
  have j60 : ∀ (x2 : Int32), ∀ (v_p1_size : Int32), ∀ (v_rows_size : Int32), ∀ (v_p1_parts : (Nat → Int32)), ∀ (v_rows_parts : (Nat → Int32)), ∀ (ls : Array Slot), lv_has ls 3 [(0, .ref a_this), (2, .int x2)] → ∀ (H : Heap) (locs : List Loc), va_P G.1 vwCl [(a_this, .inr (2, [.ref a_this_rows, .ref a_this_places])), (a_p1, .inr (6, [.int v_p1_most, .ref a_p1_parts, .int v_p1_size])), (a_this_rows, .inr (6, [.int v_rows_most, .ref a_this_rows_parts, .int v_rows_size])), (a_this_places, .inl (G.2.1, 6, .inl v_places)), (a_p1_parts, .inl (G.2.1, 50, .inl v_p1_parts)), (a_this_rows_parts, .inl (G.2.1, 50, .inl v_rows_parts))] H → va_D A [(a_this, .inr (2, [.ref a_this_rows, .ref a_this_places])), (a_p1, .inr (6, [.int v_p1_most, .ref a_p1_parts, .int v_p1_size])), (a_this_rows, .inr (6, [.int v_rows_most, .ref a_this_rows_parts, .int v_rows_size])), (a_this_places, .inl (G.2.1, 6, .inl v_places)), (a_p1_parts, .inl (G.2.1, 50, .inl v_p1_parts)), (a_this_rows_parts, .inl (G.2.1, 50, .inl v_rows_parts))] → va_S A s.heap H locs → f_X2_undoLatest_b60 x2 v_p1_size v_rows_size v_p1_parts v_rows_parts = some (R1, R2, R3, R4) → W p l e rm_X2_undoLatest s m args below meth c H locs 0 0 QQ (F0 m 60 ls []) := by
    intro x2 v_p1_size v_rows_size v_p1_parts v_rows_parts ls hl H locs hP hD hS hf
    unfold f_X2_undoLatest_b60 at hf
    refine lv_aload_n hx hb dX2_undoLatest_60 rfl (lv_at hl 0 rfl) ?_
    refine va_get (D := G.1) (ci := 2) (v := .ref a_this_rows) (C := RX2) (T := TX2) (N := 2) hx hb hts inX2 hown hK hP 0 rfl rfl 0 (by decide) lk14 (fun _ h9 => h9) rfl dX2_undoLatest_61 ?_
    refine lv_iload_n hx hb dX2_undoLatest_64 rfl (lv_at hl 1 rfl) ?_
    obtain ⟨w12, w13, hu, hf⟩ := bd2_some hf
    refine zWn (wr := [(a_this, .inr (2, [.ref a_this_rows, .ref a_this_places])), (a_p1, .inr (6, [.int v_p1_most, .ref a_p1_parts, .int v_p1_size])), (a_this_places, .inl (G.2.1, 6, .inl v_places)), (a_p1_parts, .inl (G.2.1, 50, .inl v_p1_parts))]) (ws2 := [(a_this, .inr (2, [.ref a_this_rows, .ref a_this_places])), (a_p1, .inr (6, [.int v_p1_most, .ref a_p1_parts, .int v_p1_size])), (a_this_rows, .inr (6, [.int v_rows_most, .ref a_this_rows_parts, .int w12])), (a_this_places, .inl (G.2.1, 6, .inl v_places)), (a_p1_parts, .inl (G.2.1, 50, .inl v_p1_parts)), (a_this_rows_parts, .inl (G.2.1, 50, .inl w13))]) (va_runV (As := [.int x2]) (rest := []) hC (c_X6_removeAt l G _ a_this_rows a_this_rows_parts (v_rows_most) (v_rows_size) (v_rows_parts) (x2) w12 w13 hu) (cwV 1 hts gX2_undoLatest_X6_removeAt rfl rfl rfl hd_X6_removeAt ⟨(Nat.le_of_ble_eq_true rfl), (Nat.le_of_ble_eq_true rfl)⟩) (zPVw hE hP hD [2, 5] rfl rfl 2 rfl rfl) rfl rfl hl.1 rfl (lv_room (Nat.le_of_ble_eq_true rfl)) dX2_undoLatest_65 ⟨Nat.zero_le _, Nat.zero_le _⟩) hP hD hS hA [2, 5] [0, 1, 3, 4] [0, 1, 4, 2, 3, 5] rfl rfl rfl rfl (by decide) rfl rfl rfl (fun H locs hP hD hS => ?_)
    obtain ⟨hr0, hr1, hr2, hr3⟩ := so4 hf
    subst hr0
    subst hr1
    subst hr2
    subst hr3
    rw [← hQ]
    exact W.vret hx hb hr (fun t ht hW => ⟨⟨rfl, by rw [ht]; exact hP⟩, hS.F ht⟩) hS.2.2 dX2_undoLatest_68
  have hSH := hS
  unfold f_X2_undoLatest at hf
  refine lv_aload_n hx hb dX2_undoLatest_0 rfl (lv_at hl 0 rfl) ?_
  refine va_get (D := G.1) (ci := 2) (v := .ref a_this_rows) (C := RX2) (T := TX2) (N := 2) hx hb hts inX2 hown hK hP 0 rfl rfl 0 (by decide) lk14 (fun _ h9 => h9) rfl dX2_undoLatest_1 ?_
  refine va_get (D := G.1) (ci := 6) (v := .int v_rows_size) (C := RX6) (T := TX6) (N := 3) hx hb hts inX6 hown hK hP 2 rfl rfl 2 (by decide) lk27 (fun _ h9 => h9) rfl dX2_undoLatest_4 ?_
  refine lv_iconst (v := (1 : Int32)) hx hb dX2_undoLatest_7 (by decide) ?_
  refine lv_isub hx hb dX2_undoLatest_8 ?_
  refine lv_istore_n (lv' := [(2, .int (v_rows_size - (1 : Int32))), (0, .ref a_this), (1, .ref a_p1)]) hx hb dX2_undoLatest_9 rfl hl (by decide) rfl (fun ls hl => ?_)
  refine lv_aload_n hx hb dX2_undoLatest_10 rfl (lv_at hl 1 rfl) ?_
  refine va_get (D := G.1) (ci := 2) (v := .ref a_this_rows) (C := RX2) (T := TX2) (N := 2) hx hb hts inX2 hown hK hP 0 rfl rfl 0 (by decide) lk14 (fun _ h9 => h9) rfl dX2_undoLatest_11 ?_
  refine lv_iload_n hx hb dX2_undoLatest_14 rfl (lv_at hl 0 rfl) ?_
  obtain ⟨r14, hu, hf⟩ := bd1_some hf
  refine zRi (va_runV (As := [.int (v_rows_size - (1 : Int32))]) (rest := []) hC (c_X6_has l G a_this_rows a_this_rows_parts (v_rows_most) (v_rows_size) ((v_rows_size - (1 : Int32))) r14 hu) (cwV 1 hts gX2_undoLatest_X6_has rfl rfl rfl hd_X6_has ⟨(Nat.le_of_ble_eq_true rfl), (Nat.le_of_ble_eq_true rfl)⟩) (zPV hE hP [2] rfl 2 rfl rfl) rfl rfl hl.1 rfl (lv_room (Nat.le_of_ble_eq_true rfl)) dX2_undoLatest_15 ⟨Nat.zero_le _, Nat.zero_le _⟩) ?_
  refine lv_if_ne (tgt := 22) hx hb dX2_undoLatest_18 (by decide) (fun hc15 => ?_) (fun hc15 => ?_)
  · have hf := if_f hf hc15
    refine lv_aload_n hx hb dX2_undoLatest_22 rfl (lv_at hl 1 rfl) ?_
    refine va_get (D := G.1) (ci := 2) (v := .ref a_this_places) (C := RX2) (T := TX2) (N := 2) hx hb hts inX2 hown hK hP 0 rfl rfl 1 (by decide) lk20 (fun _ h9 => h9) rfl dX2_undoLatest_23 ?_
    refine lv_iload_n hx hb dX2_undoLatest_26 rfl (lv_at hl 0 rfl) ?_
    obtain ⟨hg16, hf⟩ := gd_some hf
    refine va_iald hx hb hK hP 3 0 rfl rfl (inB_in hg16) dX2_undoLatest_27 ?_
    refine lv_iconst (v := (-1 : Int32)) hx hb dX2_undoLatest_28 (by decide) ?_
    refine lv_icmp_ne (tgt := 45) hx hb dX2_undoLatest_29 (by decide) (fun hc17 => ?_) (fun hc17 => ?_)
    · have hf := if_f hf hc17
      refine lv_aload_n hx hb dX2_undoLatest_45 rfl (lv_at hl 2 rfl) ?_
      refine lv_aload_n hx hb dX2_undoLatest_46 rfl (lv_at hl 1 rfl) ?_
      refine va_get (D := G.1) (ci := 2) (v := .ref a_this_rows) (C := RX2) (T := TX2) (N := 2) hx hb hts inX2 hown hK hP 0 rfl rfl 0 (by decide) lk14 (fun _ h9 => h9) rfl dX2_undoLatest_47 ?_
      refine lv_iload_n hx hb dX2_undoLatest_50 rfl (lv_at hl 0 rfl) ?_
      refine lv_aload_n hx hb dX2_undoLatest_51 rfl (lv_at hl 1 rfl) ?_
      refine va_get (D := G.1) (ci := 2) (v := .ref a_this_places) (C := RX2) (T := TX2) (N := 2) hx hb hts inX2 hown hK hP 0 rfl rfl 1 (by decide) lk20 (fun _ h9 => h9) rfl dX2_undoLatest_52 ?_
      refine lv_iload_n hx hb dX2_undoLatest_55 rfl (lv_at hl 0 rfl) ?_
      obtain ⟨hg18, hf⟩ := gd_some hf
      refine va_iald hx hb hK hP 3 0 rfl rfl (inB_in hg18) dX2_undoLatest_56 ?_
      obtain ⟨w19, w20, hu, hf⟩ := bd2_some hf
      refine zWn (wr := [(a_this, .inr (2, [.ref a_this_rows, .ref a_this_places])), (a_this_places, .inl (G.2.1, 6, .inl v_places))]) (ws2 := [(a_this, .inr (2, [.ref a_this_rows, .ref a_this_places])), (a_p1, .inr (6, [.int v_p1_most, .ref a_p1_parts, .int w19])), (a_this_rows, .inr (6, [.int v_rows_most, .ref a_this_rows_parts, .int v_rows_size])), (a_this_places, .inl (G.2.1, 6, .inl v_places)), (a_p1_parts, .inl (G.2.1, 50, .inl w20)), (a_this_rows_parts, .inl (G.2.1, 50, .inl v_rows_parts))]) (va_runV (As := [.ref a_this_rows, .int (v_rows_size - (1 : Int32)), .int (v_places ((v_rows_size - (1 : Int32))).toNatClampNeg)]) (rest := []) hC (c_X6_insertFrom l G _ a_p1 a_this_rows a_p1_parts a_this_rows_parts (v_p1_most) (v_p1_size) (v_rows_most) (v_rows_size) (v_p1_parts) (v_rows_parts) ((v_rows_size - (1 : Int32))) ((v_places ((v_rows_size - (1 : Int32))).toNatClampNeg)) w19 w20 hu) (cwV 3 hts gX2_undoLatest_X6_insertFrom rfl rfl rfl hd_X6_insertFrom ⟨(Nat.le_of_ble_eq_true rfl), (Nat.le_of_ble_eq_true rfl)⟩) (zPVw hE hP hD [1, 2, 4, 5] rfl rfl 1 rfl rfl) rfl rfl hl.1 rfl (lv_room (Nat.le_of_ble_eq_true rfl)) dX2_undoLatest_57 ⟨Nat.zero_le _, Nat.zero_le _⟩) hP hD hS hA [1, 2, 4, 5] [0, 3] [0, 2, 3, 1, 4, 5] rfl rfl rfl rfl (by decide) rfl rfl rfl (fun H locs hP hD hS => ?_)
      exact j60 ((v_rows_size - (1 : Int32))) (w19) (v_rows_size) (w20) (v_rows_parts) ls (lv_sub hl [1, 0] rfl) _ _ hP hD hS hf
    · have hf := if_t hf hc17
      refine lv_aload_n hx hb dX2_undoLatest_32 rfl (lv_at hl 2 rfl) ?_
      refine lv_aload_n hx hb dX2_undoLatest_33 rfl (lv_at hl 2 rfl) ?_
      refine va_get (D := G.1) (ci := 6) (v := .int v_p1_size) (C := RX6) (T := TX6) (N := 3) hx hb hts inX6 hown hK hP 1 rfl rfl 2 (by decide) lk27 (fun _ h9 => h9) rfl dX2_undoLatest_34 ?_
      refine lv_iconst (v := (1 : Int32)) hx hb dX2_undoLatest_37 (by decide) ?_
      refine lv_isub hx hb dX2_undoLatest_38 ?_
      obtain ⟨w21, w22, hu, hf⟩ := bd2_some hf
      refine zWn (wr := [(a_this, .inr (2, [.ref a_this_rows, .ref a_this_places])), (a_this_rows, .inr (6, [.int v_rows_most, .ref a_this_rows_parts, .int v_rows_size])), (a_this_places, .inl (G.2.1, 6, .inl v_places)), (a_this_rows_parts, .inl (G.2.1, 50, .inl v_rows_parts))]) (ws2 := [(a_this, .inr (2, [.ref a_this_rows, .ref a_this_places])), (a_p1, .inr (6, [.int v_p1_most, .ref a_p1_parts, .int w21])), (a_this_rows, .inr (6, [.int v_rows_most, .ref a_this_rows_parts, .int v_rows_size])), (a_this_places, .inl (G.2.1, 6, .inl v_places)), (a_p1_parts, .inl (G.2.1, 50, .inl w22)), (a_this_rows_parts, .inl (G.2.1, 50, .inl v_rows_parts))]) (va_runV (As := [.int (v_p1_size - (1 : Int32))]) (rest := []) hC (c_X6_removeAt l G _ a_p1 a_p1_parts (v_p1_most) (v_p1_size) (v_p1_parts) ((v_p1_size - (1 : Int32))) w21 w22 hu) (cwV 1 hts gX2_undoLatest_X6_removeAt rfl rfl rfl hd_X6_removeAt ⟨(Nat.le_of_ble_eq_true rfl), (Nat.le_of_ble_eq_true rfl)⟩) (zPVw hE hP hD [1, 4] rfl rfl 1 rfl rfl) rfl rfl hl.1 rfl (lv_room (Nat.le_of_ble_eq_true rfl)) dX2_undoLatest_39 ⟨Nat.zero_le _, Nat.zero_le _⟩) hP hD hS hA [1, 4] [0, 2, 3, 5] [0, 4, 1, 2, 5, 3] rfl rfl rfl rfl (by decide) rfl rfl rfl (fun H locs hP hD hS => ?_)
      refine lv_goto (tgt := 60) hx hb dX2_undoLatest_42 (by decide) ?_
      exact j60 ((v_rows_size - (1 : Int32))) (w21) (v_rows_size) (w22) (v_rows_parts) ls (lv_sub hl [1, 0] rfl) _ _ hP hD hS hf
  · have hf := if_t hf hc15
    obtain ⟨hr0, hr1, hr2, hr3⟩ := so4 hf
    subst hr0
    subst hr1
    subst hr2
    subst hr3
    rw [← hQ]
    exact W.vret hx hb hr (fun t ht hW => ⟨⟨rfl, by rw [ht]; exact hP⟩, hS.F ht⟩) hS.2.2 dX2_undoLatest_21
theorem hd_X6_become : yX6_become.cls = RX6 ∧ yX6_become.cls ≠ "java/lang/invoke/MethodHandle" ∧ yX6_become.cls ≠ "java/lang/invoke/VarHandle" ∧ (parseMethodDescriptor yX6_become.desc).map (fun d => d.parameters.length) = some 1 := by decide +kernel
def f_X2_become  (v_rows_size : Int32) (v_p1_rows_size : Int32) (v_rows_parts : (Nat → Int32)) (v_p1_rows_parts : (Nat → Int32)) (v_p1_places : (Nat → Int32)) (v_places : (Nat → Int32))  : Option (Int32 × (Nat → Int32) × (Nat → Int32)) := bd2 (f_X6_become (v_rows_size) (v_p1_rows_size) (v_rows_parts) (v_p1_rows_parts)) fun w5 w6 => gd (cpB (0 : Int32) (0 : Int32) (6 : Int32) 6 6) (nm (va_cpy v_p1_places v_places ((0 : Int32)).toNatClampNeg ((0 : Int32)).toNatClampNeg ((6 : Int32)).toNatClampNeg) fun y8 => some (w5, w6, y8))
abbrev rm_X2_become : Room := { frames := 2, cells := 0, slots := 0, locals := 53 }
set_option maxHeartbeats 4000000 in
set_option maxRecDepth 100000 in
theorem c_X2_become (l : Launch) (G : zG) (sz : Nat) (a_this : Nat) (a_p1 : Nat) (a_this_rows : Nat) (a_p1_rows : Nat) (a_this_rows_parts : Nat) (a_p1_rows_parts : Nat) (a_p1_places : Nat) (a_this_places : Nat) (v_rows_most : Int32) (v_rows_size : Int32) (v_p1_rows_most : Int32) (v_p1_rows_size : Int32) (v_rows_parts : (Nat → Int32)) (v_p1_rows_parts : (Nat → Int32)) (v_p1_places : (Nat → Int32)) (v_places : (Nat → Int32)) (R1 : Int32) (R2 : (Nat → Int32)) (R3 : (Nat → Int32)) (hf : f_X2_become v_rows_size v_p1_rows_size v_rows_parts v_p1_rows_parts v_p1_places v_places = some (R1, R2, R3)) : Met l yX2_become wsX2_become rm_X2_become (va_Pc [.ref a_this, .ref a_p1] (zB G [(a_this, .inr (2, [.ref a_this_rows, .ref a_this_places])), (a_p1, .inr (2, [.ref a_p1_rows, .ref a_p1_places])), (a_this_rows, .inr (6, [.int v_rows_most, .ref a_this_rows_parts, .int v_rows_size])), (a_p1_rows, .inr (6, [.int v_p1_rows_most, .ref a_p1_rows_parts, .int v_p1_rows_size])), (a_this_rows_parts, .inl (G.2.1, 50, .inl v_rows_parts)), (a_p1_rows_parts, .inl (G.2.1, 50, .inl v_p1_rows_parts)), (a_p1_places, .inl (G.2.1, 6, .inl v_p1_places)), (a_this_places, .inl (G.2.1, 6, .inl v_places))] sz)) (zQ G none [(a_this, .inr (2, [.ref a_this_rows, .ref a_this_places])), (a_p1, .inr (2, [.ref a_p1_rows, .ref a_p1_places])), (a_this_rows, .inr (6, [.int v_rows_most, .ref a_this_rows_parts, .int R1])), (a_p1_rows, .inr (6, [.int v_p1_rows_most, .ref a_p1_rows_parts, .int v_p1_rows_size])), (a_this_rows_parts, .inl (G.2.1, 50, .inl R2)), (a_p1_rows_parts, .inl (G.2.1, 50, .inl v_p1_rows_parts)), (a_p1_places, .inl (G.2.1, 6, .inl v_p1_places)), (a_this_places, .inl (G.2.1, 6, .inl R3))] (va_A [(a_this, .inr (2, [.ref a_this_rows, .ref a_this_places])), (a_p1, .inr (2, [.ref a_p1_rows, .ref a_p1_places])), (a_this_rows, .inr (6, [.int v_rows_most, .ref a_this_rows_parts, .int v_rows_size])), (a_p1_rows, .inr (6, [.int v_p1_rows_most, .ref a_p1_rows_parts, .int v_p1_rows_size])), (a_this_rows_parts, .inl (G.2.1, 50, .inl v_rows_parts)), (a_p1_rows_parts, .inl (G.2.1, 50, .inl v_p1_rows_parts)), (a_p1_places, .inl (G.2.1, 6, .inl v_p1_places)), (a_this_places, .inl (G.2.1, 6, .inl v_places))] sz)) 0 0 (va_A [(a_this, .inr (2, [.ref a_this_rows, .ref a_this_places])), (a_p1, .inr (2, [.ref a_p1_rows, .ref a_p1_places])), (a_this_rows, .inr (6, [.int v_rows_most, .ref a_this_rows_parts, .int v_rows_size])), (a_p1_rows, .inr (6, [.int v_p1_rows_most, .ref a_p1_rows_parts, .int v_p1_rows_size])), (a_this_rows_parts, .inl (G.2.1, 50, .inl v_rows_parts)), (a_p1_rows_parts, .inl (G.2.1, 50, .inl v_p1_rows_parts)), (a_p1_places, .inl (G.2.1, 6, .inl v_p1_places)), (a_this_places, .inl (G.2.1, 6, .inl v_places))] sz) := by
  refine Met.ofW (cc := cX2_become) (maxL := 2) (ret := none) (by decide) rfl ?_
  intro p e s m args below meth c s₁ B hml hv
  obtain ⟨hargs, hsz, hP, hD0, hE⟩ := hv
  have hx := B.exec
  have hb := B.bytes
  have hr := B.returns
  have hts := atoms_spec (ws := wsX2_become) B.pre
  have hown : s.vm.findClass RX2 = some m.cls := findClass_of_methodNamed B.named
  have hlocks := B.notSynchronized
  have hK := hE.1
  have hC : CallFix p m c cX2_become 2 s args wsX2_become RX2 := ⟨hx, hb, hml, hown, hts⟩
  have inX2 : ∀ w ∈ wsX20, w ∈ wsX2_become := by decide +kernel
  have lk14 := hts (.fieldLink RX2 14 "SkyLeases$Past" "rows" "LSkyLeases$Terms;") (by decide +kernel)
  have lk20 := hts (.fieldLink RX2 20 "SkyLeases$Past" "places" "[I") (by decide +kernel)
  subst hsz
  have hD := hD0.self (sz := s.heap.size)
  generalize hAe : va_A [(a_this, .inr (2, [.ref a_this_rows, .ref a_this_places])), (a_p1, .inr (2, [.ref a_p1_rows, .ref a_p1_places])), (a_this_rows, .inr (6, [.int v_rows_most, .ref a_this_rows_parts, .int v_rows_size])), (a_p1_rows, .inr (6, [.int v_p1_rows_most, .ref a_p1_rows_parts, .int v_p1_rows_size])), (a_this_rows_parts, .inl (G.2.1, 50, .inl v_rows_parts)), (a_p1_rows_parts, .inl (G.2.1, 50, .inl v_p1_rows_parts)), (a_p1_places, .inl (G.2.1, 6, .inl v_p1_places)), (a_this_places, .inl (G.2.1, 6, .inl v_places))] s.heap.size = A at hD ⊢
  have hA : ∀ q : Nat, s.heap.size ≤ q → A q := fun q h => by rw [← hAe]; exact Or.inr h
  have hS : va_S A s.heap s.heap [] := va_S.rf
  have hP : va_P G.1 vwCl [(a_this, .inr (2, [.ref a_this_rows, .ref a_this_places])), (a_p1, .inr (2, [.ref a_p1_rows, .ref a_p1_places])), (a_this_rows, .inr (6, [.int v_rows_most, .ref a_this_rows_parts, .int v_rows_size])), (a_p1_rows, .inr (6, [.int v_p1_rows_most, .ref a_p1_rows_parts, .int v_p1_rows_size])), (a_this_rows_parts, .inl (G.2.1, 50, .inl v_rows_parts)), (a_p1_rows_parts, .inl (G.2.1, 50, .inl v_p1_rows_parts)), (a_p1_places, .inl (G.2.1, 6, .inl v_p1_places)), (a_this_places, .inl (G.2.1, 6, .inl v_places))] s.heap := hP
  have hl := lv_entry ([.ref a_this, .ref a_p1]) (n := 2) (Nat.le_of_ble_eq_true rfl)
  have hent : entryFrame m args 2 = F0 m 0 ((lg_sl ([.ref a_this, .ref a_p1]) ++ List.replicate (2 - (lg_sl ([.ref a_this, .ref a_p1])).length) Slot.unset).toArray) [] := by rw [hargs]; exact lg_entry_eq m [.ref a_this, .ref a_p1] 2
  refine W.eq hent ?_
  clear hent
  generalize (lg_sl ([.ref a_this, .ref a_p1]) ++ List.replicate (2 - (lg_sl ([.ref a_this, .ref a_p1])).length) Slot.unset).toArray = ls at hl ⊢
  have hl : lv_has ls 2 [(0, .ref a_this), (1, .ref a_p1)] := hl
  generalize hQ : MQ below _ args s 0 0 _ = QQ
  change W p l e rm_X2_become s m args below meth c s.heap [] 0 0 QQ _
  have hSH := hS
  unfold f_X2_become at hf
  refine lv_aload_n hx hb dX2_become_0 rfl (lv_at hl 0 rfl) ?_
  refine va_get (D := G.1) (ci := 2) (v := .ref a_this_rows) (C := RX2) (T := TX2) (N := 2) hx hb hts inX2 hown hK hP 0 rfl rfl 0 (by decide) lk14 (fun _ h9 => h9) rfl dX2_become_1 ?_
  refine lv_aload_n hx hb dX2_become_4 rfl (lv_at hl 1 rfl) ?_
  refine va_get (D := G.1) (ci := 2) (v := .ref a_p1_rows) (C := RX2) (T := TX2) (N := 2) hx hb hts inX2 hown hK hP 1 rfl rfl 0 (by decide) lk14 (fun _ h9 => h9) rfl dX2_become_5 ?_
  obtain ⟨w5, w6, hu, hf⟩ := bd2_some hf
  refine zWn (wr := [(a_this, .inr (2, [.ref a_this_rows, .ref a_this_places])), (a_p1, .inr (2, [.ref a_p1_rows, .ref a_p1_places])), (a_p1_places, .inl (G.2.1, 6, .inl v_p1_places)), (a_this_places, .inl (G.2.1, 6, .inl v_places))]) (ws2 := [(a_this, .inr (2, [.ref a_this_rows, .ref a_this_places])), (a_p1, .inr (2, [.ref a_p1_rows, .ref a_p1_places])), (a_this_rows, .inr (6, [.int v_rows_most, .ref a_this_rows_parts, .int w5])), (a_p1_rows, .inr (6, [.int v_p1_rows_most, .ref a_p1_rows_parts, .int v_p1_rows_size])), (a_this_rows_parts, .inl (G.2.1, 50, .inl w6)), (a_p1_rows_parts, .inl (G.2.1, 50, .inl v_p1_rows_parts)), (a_p1_places, .inl (G.2.1, 6, .inl v_p1_places)), (a_this_places, .inl (G.2.1, 6, .inl v_places))]) (va_runV (As := [.ref a_p1_rows]) (rest := []) hC (c_X6_become l G _ a_this_rows a_p1_rows a_this_rows_parts a_p1_rows_parts (v_rows_most) (v_rows_size) (v_p1_rows_most) (v_p1_rows_size) (v_rows_parts) (v_p1_rows_parts) w5 w6 hu) (cwV 1 hts gX2_become_X6_become rfl rfl rfl hd_X6_become ⟨(Nat.le_of_ble_eq_true rfl), (Nat.le_of_ble_eq_true rfl)⟩) (zPVw hE hP hD [2, 3, 4, 5] rfl rfl 2 rfl rfl) rfl rfl hl.1 rfl (lv_room (Nat.le_of_ble_eq_true rfl)) dX2_become_8 ⟨Nat.zero_le _, Nat.zero_le _⟩) hP hD hS hA [2, 3, 4, 5] [0, 1, 6, 7] [0, 1, 4, 5, 6, 7, 2, 3] rfl rfl rfl rfl (by decide) rfl rfl rfl (fun H locs hP hD hS => ?_)
  refine lv_aload_n hx hb dX2_become_11 rfl (lv_at hl 1 rfl) ?_
  refine va_get (D := G.1) (ci := 2) (v := .ref a_p1_places) (C := RX2) (T := TX2) (N := 2) hx hb hts inX2 hown hK hP 1 rfl rfl 1 (by decide) lk20 (fun _ h9 => h9) rfl dX2_become_12 ?_
  refine lv_iconst (v := (0 : Int32)) hx hb dX2_become_15 (by decide) ?_
  refine lv_aload_n hx hb dX2_become_16 rfl (lv_at hl 0 rfl) ?_
  refine va_get (D := G.1) (ci := 2) (v := .ref a_this_places) (C := RX2) (T := TX2) (N := 2) hx hb hts inX2 hown hK hP 0 rfl rfl 1 (by decide) lk20 (fun _ h9 => h9) rfl dX2_become_17 ?_
  refine lv_iconst (v := (0 : Int32)) hx hb dX2_become_20 (by decide) ?_
  refine lv_bipush (v := (6 : Int32)) hx hb dX2_become_21 (by decide) ?_
  obtain ⟨hg7, hf⟩ := gd_some hf
  refine z_copyi hx hb (by rw [hml]; exact hl.1.symm) hown (hts (.methodLink RX2 50 arraycopyName) (by decide +kernel)) (hts (.native arraycopyName) (by decide +kernel)) (hts (.static arraycopyName) (by decide +kernel)) (hts (.initialized "java/lang/System") (by decide +kernel)) hK hP hD hS 6 7 rfl rfl hg7 (Nat.le_of_ble_eq_true rfl) (Nat.le_of_ble_eq_true rfl) dX2_become_23 (fun gg => [(a_this, .inr (2, [.ref a_this_rows, .ref a_this_places])), (a_p1, .inr (2, [.ref a_p1_rows, .ref a_p1_places])), (a_this_rows, .inr (6, [.int v_rows_most, .ref a_this_rows_parts, .int w5])), (a_p1_rows, .inr (6, [.int v_p1_rows_most, .ref a_p1_rows_parts, .int v_p1_rows_size])), (a_this_rows_parts, .inl (G.2.1, 50, .inl w6)), (a_p1_rows_parts, .inl (G.2.1, 50, .inl v_p1_rows_parts)), (a_p1_places, .inl (G.2.1, 6, .inl v_p1_places)), (a_this_places, .inl (G.2.1, 6, .inl gg))]) (fun gg => rfl) (fun y8 H locs ey8 hP hD hS => ?_)
  have hf := nm_to hf ey8
  have hP : va_P G.1 vwCl [(a_this, .inr (2, [.ref a_this_rows, .ref a_this_places])), (a_p1, .inr (2, [.ref a_p1_rows, .ref a_p1_places])), (a_this_rows, .inr (6, [.int v_rows_most, .ref a_this_rows_parts, .int w5])), (a_p1_rows, .inr (6, [.int v_p1_rows_most, .ref a_p1_rows_parts, .int v_p1_rows_size])), (a_this_rows_parts, .inl (G.2.1, 50, .inl w6)), (a_p1_rows_parts, .inl (G.2.1, 50, .inl v_p1_rows_parts)), (a_p1_places, .inl (G.2.1, 6, .inl v_p1_places)), (a_this_places, .inl (G.2.1, 6, .inl y8))] H := hP
  have hD : va_D A [(a_this, .inr (2, [.ref a_this_rows, .ref a_this_places])), (a_p1, .inr (2, [.ref a_p1_rows, .ref a_p1_places])), (a_this_rows, .inr (6, [.int v_rows_most, .ref a_this_rows_parts, .int w5])), (a_p1_rows, .inr (6, [.int v_p1_rows_most, .ref a_p1_rows_parts, .int v_p1_rows_size])), (a_this_rows_parts, .inl (G.2.1, 50, .inl w6)), (a_p1_rows_parts, .inl (G.2.1, 50, .inl v_p1_rows_parts)), (a_p1_places, .inl (G.2.1, 6, .inl v_p1_places)), (a_this_places, .inl (G.2.1, 6, .inl y8))] := hD
  obtain ⟨hr0, hr1, hr2⟩ := so3 hf
  subst hr0
  subst hr1
  subst hr2
  rw [← hQ]
  exact W.vret hx hb hr (fun t ht hW => ⟨⟨rfl, by rw [ht]; exact hP⟩, hS.F ht⟩) hS.2.2 dX2_become_26
def f_X5_empty  (v_squares : Int32) (v_stars : Int32) (v_tenants : Int32) (v_leases_size : Int32)  : Option (Int32 × Int32 × Int32 × Int32) := some ((4 : Int32), (0 : Int32), (0 : Int32), (0 : Int32))
abbrev rm_X5_empty : Room := { frames := 0, cells := 0, slots := 0, locals := 0 }
set_option maxHeartbeats 4000000 in
set_option maxRecDepth 100000 in
theorem c_X5_empty (l : Launch) (G : zG) (sz : Nat) (a_this : Nat) (a_this_leases : Nat) (a_this_starts : Nat) (a_this_paces : Nat) (a_this_brights : Nat) (a_this_purses : Nat) (a_this_leases_parts : Nat) (v_squares : Int32) (v_stars : Int32) (v_tenants : Int32) (v_leases_most : Int32) (v_leases_size : Int32) (R1 : Int32) (R2 : Int32) (R3 : Int32) (R4 : Int32) (hf : f_X5_empty v_squares v_stars v_tenants v_leases_size = some (R1, R2, R3, R4)) : Met l yX5_empty wsX5_empty rm_X5_empty (va_Pc [.ref a_this] (zB G [(a_this, .inr (5, [.int v_squares, .int v_stars, .ref a_this_starts, .ref a_this_paces, .ref a_this_brights, .int v_tenants, .ref a_this_purses, .ref a_this_leases])), (a_this_leases, .inr (6, [.int v_leases_most, .ref a_this_leases_parts, .int v_leases_size]))] sz)) (zQ G none [(a_this, .inr (5, [.int R1, .int R2, .ref a_this_starts, .ref a_this_paces, .ref a_this_brights, .int R3, .ref a_this_purses, .ref a_this_leases])), (a_this_leases, .inr (6, [.int v_leases_most, .ref a_this_leases_parts, .int R4]))] (va_A [(a_this, .inr (5, [.int v_squares, .int v_stars, .ref a_this_starts, .ref a_this_paces, .ref a_this_brights, .int v_tenants, .ref a_this_purses, .ref a_this_leases])), (a_this_leases, .inr (6, [.int v_leases_most, .ref a_this_leases_parts, .int v_leases_size]))] sz)) 0 0 (va_A [(a_this, .inr (5, [.int v_squares, .int v_stars, .ref a_this_starts, .ref a_this_paces, .ref a_this_brights, .int v_tenants, .ref a_this_purses, .ref a_this_leases])), (a_this_leases, .inr (6, [.int v_leases_most, .ref a_this_leases_parts, .int v_leases_size]))] sz) := by
  refine Met.ofW (cc := cX5_empty) (maxL := 1) (ret := none) (by decide) rfl ?_
  intro p e s m args below meth c s₁ B hml hv
  obtain ⟨hargs, hsz, hP, hD0, hE⟩ := hv
  have hx := B.exec
  have hb := B.bytes
  have hr := B.returns
  have hts := atoms_spec (ws := wsX5_empty) B.pre
  have hown : s.vm.findClass RX5 = some m.cls := findClass_of_methodNamed B.named
  have hlocks := B.notSynchronized
  have hK := hE.1
  have hC : CallFix p m c cX5_empty 1 s args wsX5_empty RX5 := ⟨hx, hb, hml, hown, hts⟩
  have inX5 : ∀ w ∈ wsX50, w ∈ wsX5_empty := by decide +kernel
  have inX6 : ∀ w ∈ wsX60, w ∈ wsX5_empty := by decide +kernel
  have lk9 := hts (.fieldLink RX5 9 "SkyLeases$Sky" "squares" "I") (by decide +kernel)
  have lk15 := hts (.fieldLink RX5 15 "SkyLeases$Sky" "stars" "I") (by decide +kernel)
  have lk28 := hts (.fieldLink RX5 28 "SkyLeases$Sky" "tenants" "I") (by decide +kernel)
  have lk39 := hts (.fieldLink RX5 39 "SkyLeases$Sky" "leases" "LSkyLeases$Terms;") (by decide +kernel)
  have lk43 := hts (.fieldLink RX5 43 "SkyLeases$Terms" "size" "I") (by decide +kernel)
  subst hsz
  have hD := hD0.self (sz := s.heap.size)
  generalize hAe : va_A [(a_this, .inr (5, [.int v_squares, .int v_stars, .ref a_this_starts, .ref a_this_paces, .ref a_this_brights, .int v_tenants, .ref a_this_purses, .ref a_this_leases])), (a_this_leases, .inr (6, [.int v_leases_most, .ref a_this_leases_parts, .int v_leases_size]))] s.heap.size = A at hD ⊢
  have hA : ∀ q : Nat, s.heap.size ≤ q → A q := fun q h => by rw [← hAe]; exact Or.inr h
  have hS : va_S A s.heap s.heap [] := va_S.rf
  have hP : va_P G.1 vwCl [(a_this, .inr (5, [.int v_squares, .int v_stars, .ref a_this_starts, .ref a_this_paces, .ref a_this_brights, .int v_tenants, .ref a_this_purses, .ref a_this_leases])), (a_this_leases, .inr (6, [.int v_leases_most, .ref a_this_leases_parts, .int v_leases_size]))] s.heap := hP
  have hl := lv_entry ([.ref a_this]) (n := 1) (Nat.le_of_ble_eq_true rfl)
  have hent : entryFrame m args 1 = F0 m 0 ((lg_sl ([.ref a_this]) ++ List.replicate (1 - (lg_sl ([.ref a_this])).length) Slot.unset).toArray) [] := by rw [hargs]; exact lg_entry_eq m [.ref a_this] 1
  refine W.eq hent ?_
  clear hent
  generalize (lg_sl ([.ref a_this]) ++ List.replicate (1 - (lg_sl ([.ref a_this])).length) Slot.unset).toArray = ls at hl ⊢
  have hl : lv_has ls 1 [(0, .ref a_this)] := hl
  generalize hQ : MQ below _ args s 0 0 _ = QQ
  change W p l e rm_X5_empty s m args below meth c s.heap [] 0 0 QQ _
  have hSH := hS
  unfold f_X5_empty at hf
  refine lv_aload_n hx hb dX5_empty_0 rfl (lv_at hl 0 rfl) ?_
  refine lv_iconst (v := (4 : Int32)) hx hb dX5_empty_1 (by decide) ?_
  refine va_put (D := G.1) (ci := 5) (v := .int (4 : Int32)) (ty := .int) (C := RX5) (T := TX5) (N := 8) hx hb hts inX5 tyX5 tyX5_ok nmX5 hown hK hP hD hS 0 rfl rfl 0 (by decide) lk9 (fun _ h9 => h9) rfl (by decide +kernel) rfl rfl (Nat.le_of_ble_eq_true rfl) dX5_empty_2 (fun H locs hP hD hS => ?_)
  have hP : va_P G.1 vwCl [(a_this, .inr (5, [.int (4 : Int32), .int v_stars, .ref a_this_starts, .ref a_this_paces, .ref a_this_brights, .int v_tenants, .ref a_this_purses, .ref a_this_leases])), (a_this_leases, .inr (6, [.int v_leases_most, .ref a_this_leases_parts, .int v_leases_size]))] H := hP
  have hD : va_D A [(a_this, .inr (5, [.int (4 : Int32), .int v_stars, .ref a_this_starts, .ref a_this_paces, .ref a_this_brights, .int v_tenants, .ref a_this_purses, .ref a_this_leases])), (a_this_leases, .inr (6, [.int v_leases_most, .ref a_this_leases_parts, .int v_leases_size]))] := hD
  refine lv_aload_n hx hb dX5_empty_5 rfl (lv_at hl 0 rfl) ?_
  refine lv_iconst (v := (0 : Int32)) hx hb dX5_empty_6 (by decide) ?_
  refine va_put (D := G.1) (ci := 5) (v := .int (0 : Int32)) (ty := .int) (C := RX5) (T := TX5) (N := 8) hx hb hts inX5 tyX5 tyX5_ok nmX5 hown hK hP hD hS 0 rfl rfl 1 (by decide) lk15 (fun _ h9 => h9) rfl (by decide +kernel) rfl rfl (Nat.le_of_ble_eq_true rfl) dX5_empty_7 (fun H locs hP hD hS => ?_)
  have hP : va_P G.1 vwCl [(a_this, .inr (5, [.int (4 : Int32), .int (0 : Int32), .ref a_this_starts, .ref a_this_paces, .ref a_this_brights, .int v_tenants, .ref a_this_purses, .ref a_this_leases])), (a_this_leases, .inr (6, [.int v_leases_most, .ref a_this_leases_parts, .int v_leases_size]))] H := hP
  have hD : va_D A [(a_this, .inr (5, [.int (4 : Int32), .int (0 : Int32), .ref a_this_starts, .ref a_this_paces, .ref a_this_brights, .int v_tenants, .ref a_this_purses, .ref a_this_leases])), (a_this_leases, .inr (6, [.int v_leases_most, .ref a_this_leases_parts, .int v_leases_size]))] := hD
  refine lv_aload_n hx hb dX5_empty_10 rfl (lv_at hl 0 rfl) ?_
  refine lv_iconst (v := (0 : Int32)) hx hb dX5_empty_11 (by decide) ?_
  refine va_put (D := G.1) (ci := 5) (v := .int (0 : Int32)) (ty := .int) (C := RX5) (T := TX5) (N := 8) hx hb hts inX5 tyX5 tyX5_ok nmX5 hown hK hP hD hS 0 rfl rfl 5 (by decide) lk28 (fun _ h9 => h9) rfl (by decide +kernel) rfl rfl (Nat.le_of_ble_eq_true rfl) dX5_empty_12 (fun H locs hP hD hS => ?_)
  have hP : va_P G.1 vwCl [(a_this, .inr (5, [.int (4 : Int32), .int (0 : Int32), .ref a_this_starts, .ref a_this_paces, .ref a_this_brights, .int (0 : Int32), .ref a_this_purses, .ref a_this_leases])), (a_this_leases, .inr (6, [.int v_leases_most, .ref a_this_leases_parts, .int v_leases_size]))] H := hP
  have hD : va_D A [(a_this, .inr (5, [.int (4 : Int32), .int (0 : Int32), .ref a_this_starts, .ref a_this_paces, .ref a_this_brights, .int (0 : Int32), .ref a_this_purses, .ref a_this_leases])), (a_this_leases, .inr (6, [.int v_leases_most, .ref a_this_leases_parts, .int v_leases_size]))] := hD
  refine lv_aload_n hx hb dX5_empty_15 rfl (lv_at hl 0 rfl) ?_
  refine va_get (D := G.1) (ci := 5) (v := .ref a_this_leases) (C := RX5) (T := TX5) (N := 8) hx hb hts inX5 hown hK hP 0 rfl rfl 7 (by decide) lk39 (fun _ h9 => h9) rfl dX5_empty_16 ?_
  refine lv_iconst (v := (0 : Int32)) hx hb dX5_empty_19 (by decide) ?_
  refine va_put (D := G.1) (ci := 6) (v := .int (0 : Int32)) (ty := .int) (C := RX6) (T := TX6) (N := 3) hx hb hts inX6 tyX6 tyX6_ok nmX6 hown hK hP hD hS 1 rfl rfl 2 (by decide) lk43 (fun _ h9 => h9) rfl (by decide +kernel) rfl rfl (Nat.le_of_ble_eq_true rfl) dX5_empty_20 (fun H locs hP hD hS => ?_)
  have hP : va_P G.1 vwCl [(a_this, .inr (5, [.int (4 : Int32), .int (0 : Int32), .ref a_this_starts, .ref a_this_paces, .ref a_this_brights, .int (0 : Int32), .ref a_this_purses, .ref a_this_leases])), (a_this_leases, .inr (6, [.int v_leases_most, .ref a_this_leases_parts, .int (0 : Int32)]))] H := hP
  have hD : va_D A [(a_this, .inr (5, [.int (4 : Int32), .int (0 : Int32), .ref a_this_starts, .ref a_this_paces, .ref a_this_brights, .int (0 : Int32), .ref a_this_purses, .ref a_this_leases])), (a_this_leases, .inr (6, [.int v_leases_most, .ref a_this_leases_parts, .int (0 : Int32)]))] := hD
  obtain ⟨hr0, hr1, hr2, hr3⟩ := so4 hf
  subst hr0
  subst hr1
  subst hr2
  subst hr3
  rw [← hQ]
  exact W.vret hx hb hr (fun t ht hW => ⟨⟨rfl, by rw [ht]; exact hP⟩, hS.F ht⟩) hS.2.2 dX5_empty_23
def f_X5_take_b117 (v_p2 : (Nat → Int32)) (v_leases_most : Int32)   (x1 : Int32) (v_squares : Int32) (v_stars : Int32) (v_tenants : Int32) (v_starts : (Nat → Int32)) (v_paces : (Nat → Int32)) (v_brights : (Nat → Int32)) (v_purses : (Nat → Int32)) (v_leases_size : Int32) (v_leases_parts : (Nat → Int32)) : Option (Int32 × Int32 × Int32 × (Nat → Int32) × (Nat → Int32) × (Nat → Int32) × (Nat → Int32) × Int32 × (Nat → Int32)) := if x1 = (7 : Int32) then (gd (inB (0 : Int32) 5) (gd (inB (1 : Int32) 5) (gd (inB (2 : Int32) 5) (gd (inB (3 : Int32) 5) (gd (inB (4 : Int32) 5) (bd2 (f_X6_add (v_leases_most) (v_leases_size) (v_leases_parts) ((v_p2 ((0 : Int32)).toNatClampNeg)) ((v_p2 ((1 : Int32)).toNatClampNeg)) ((v_p2 ((2 : Int32)).toNatClampNeg)) ((v_p2 ((3 : Int32)).toNatClampNeg)) ((v_p2 ((4 : Int32)).toNatClampNeg))) fun w33 w34 => some (v_squares, v_stars, v_tenants, v_starts, v_paces, v_brights, v_purses, w33, w34))))))) else (some (v_squares, v_stars, v_tenants, v_starts, v_paces, v_brights, v_purses, v_leases_size, v_leases_parts))
def f_X5_take_b78 (v_p2 : (Nat → Int32)) (v_leases_most : Int32)   (x1 : Int32) (v_squares : Int32) (v_stars : Int32) (v_tenants : Int32) (v_starts : (Nat → Int32)) (v_paces : (Nat → Int32)) (v_brights : (Nat → Int32)) (v_purses : (Nat → Int32)) (v_leases_size : Int32) (v_leases_parts : (Nat → Int32)) : Option (Int32 × Int32 × Int32 × (Nat → Int32) × (Nat → Int32) × (Nat → Int32) × (Nat → Int32) × Int32 × (Nat → Int32)) := if x1 = (6 : Int32) then (if (4 : Int32) ≤ v_tenants then (f_X5_take_b117 v_p2 v_leases_most (x1) (v_squares) (v_stars) (v_tenants) (v_starts) (v_paces) (v_brights) (v_purses) (v_leases_size) (v_leases_parts)) else (gd (inB (0 : Int32) 5) (gd (inB v_tenants 4) (nm (upd v_purses (v_tenants).toNatClampNeg (v_p2 ((0 : Int32)).toNatClampNeg)) fun y39 => some (v_squares, v_stars, (v_tenants + (1 : Int32)), v_starts, v_paces, v_brights, y39, v_leases_size, v_leases_parts))))) else (f_X5_take_b117 v_p2 v_leases_most (x1) (v_squares) (v_stars) (v_tenants) (v_starts) (v_paces) (v_brights) (v_purses) (v_leases_size) (v_leases_parts))
def f_X5_take  (v_squares : Int32) (v_stars : Int32) (v_tenants : Int32) (v_p2 : (Nat → Int32)) (v_starts : (Nat → Int32)) (v_paces : (Nat → Int32)) (v_brights : (Nat → Int32)) (v_purses : (Nat → Int32)) (v_leases_most : Int32) (v_leases_size : Int32) (v_leases_parts : (Nat → Int32)) (g1 : Int32) : Option (Int32 × Int32 × Int32 × (Nat → Int32) × (Nat → Int32) × (Nat → Int32) × (Nat → Int32) × Int32 × (Nat → Int32)) := if g1 = (4 : Int32) then (gd (inB (0 : Int32) 5) (some ((v_p2 ((0 : Int32)).toNatClampNeg), v_stars, v_tenants, v_starts, v_paces, v_brights, v_purses, v_leases_size, v_leases_parts))) else (if g1 = (5 : Int32) then (if (8 : Int32) ≤ v_stars then (f_X5_take_b78 v_p2 v_leases_most (g1) (v_squares) (v_stars) (v_tenants) (v_starts) (v_paces) (v_brights) (v_purses) (v_leases_size) (v_leases_parts)) else (gd (inB (0 : Int32) 5) (gd (inB v_stars 8) (nm (upd v_starts (v_stars).toNatClampNeg (v_p2 ((0 : Int32)).toNatClampNeg)) fun y45 => gd (inB (1 : Int32) 5) (gd (inB v_stars 8) (nm (upd v_paces (v_stars).toNatClampNeg (v_p2 ((1 : Int32)).toNatClampNeg)) fun y48 => gd (inB (2 : Int32) 5) (gd (inB v_stars 8) (nm (upd v_brights (v_stars).toNatClampNeg (v_p2 ((2 : Int32)).toNatClampNeg)) fun y51 => some (v_squares, (v_stars + (1 : Int32)), v_tenants, y45, y48, y51, v_purses, v_leases_size, v_leases_parts))))))))) else (f_X5_take_b78 v_p2 v_leases_most (g1) (v_squares) (v_stars) (v_tenants) (v_starts) (v_paces) (v_brights) (v_purses) (v_leases_size) (v_leases_parts)))
abbrev rm_X5_take : Room := { frames := 2, cells := 0, slots := 0, locals := 46 }
set_option maxHeartbeats 4000000 in
set_option maxRecDepth 100000 in
theorem c_X5_take (l : Launch) (G : zG) (sz : Nat) (a_this : Nat) (a_p2 : Nat) (a_this_starts : Nat) (a_this_paces : Nat) (a_this_brights : Nat) (a_this_purses : Nat) (a_this_leases : Nat) (a_this_leases_parts : Nat) (v_squares : Int32) (v_stars : Int32) (v_tenants : Int32) (v_p2 : (Nat → Int32)) (v_starts : (Nat → Int32)) (v_paces : (Nat → Int32)) (v_brights : (Nat → Int32)) (v_purses : (Nat → Int32)) (v_leases_most : Int32) (v_leases_size : Int32) (v_leases_parts : (Nat → Int32)) (g1 : Int32) (R1 : Int32) (R2 : Int32) (R3 : Int32) (R4 : (Nat → Int32)) (R5 : (Nat → Int32)) (R6 : (Nat → Int32)) (R7 : (Nat → Int32)) (R8 : Int32) (R9 : (Nat → Int32)) (hf : f_X5_take v_squares v_stars v_tenants v_p2 v_starts v_paces v_brights v_purses v_leases_most v_leases_size v_leases_parts g1 = some (R1, R2, R3, R4, R5, R6, R7, R8, R9)) : Met l yX5_take wsX5_take rm_X5_take (va_Pc [.ref a_this, .int g1, .ref a_p2] (zB G [(a_this, .inr (5, [.int v_squares, .int v_stars, .ref a_this_starts, .ref a_this_paces, .ref a_this_brights, .int v_tenants, .ref a_this_purses, .ref a_this_leases])), (a_p2, .inl (G.2.1, 5, .inl v_p2)), (a_this_starts, .inl (G.2.1, 8, .inl v_starts)), (a_this_paces, .inl (G.2.1, 8, .inl v_paces)), (a_this_brights, .inl (G.2.1, 8, .inl v_brights)), (a_this_purses, .inl (G.2.1, 4, .inl v_purses)), (a_this_leases, .inr (6, [.int v_leases_most, .ref a_this_leases_parts, .int v_leases_size])), (a_this_leases_parts, .inl (G.2.1, 50, .inl v_leases_parts))] sz)) (zQ G none [(a_this, .inr (5, [.int R1, .int R2, .ref a_this_starts, .ref a_this_paces, .ref a_this_brights, .int R3, .ref a_this_purses, .ref a_this_leases])), (a_p2, .inl (G.2.1, 5, .inl v_p2)), (a_this_starts, .inl (G.2.1, 8, .inl R4)), (a_this_paces, .inl (G.2.1, 8, .inl R5)), (a_this_brights, .inl (G.2.1, 8, .inl R6)), (a_this_purses, .inl (G.2.1, 4, .inl R7)), (a_this_leases, .inr (6, [.int v_leases_most, .ref a_this_leases_parts, .int R8])), (a_this_leases_parts, .inl (G.2.1, 50, .inl R9))] (va_A [(a_this, .inr (5, [.int v_squares, .int v_stars, .ref a_this_starts, .ref a_this_paces, .ref a_this_brights, .int v_tenants, .ref a_this_purses, .ref a_this_leases])), (a_p2, .inl (G.2.1, 5, .inl v_p2)), (a_this_starts, .inl (G.2.1, 8, .inl v_starts)), (a_this_paces, .inl (G.2.1, 8, .inl v_paces)), (a_this_brights, .inl (G.2.1, 8, .inl v_brights)), (a_this_purses, .inl (G.2.1, 4, .inl v_purses)), (a_this_leases, .inr (6, [.int v_leases_most, .ref a_this_leases_parts, .int v_leases_size])), (a_this_leases_parts, .inl (G.2.1, 50, .inl v_leases_parts))] sz)) 0 0 (va_A [(a_this, .inr (5, [.int v_squares, .int v_stars, .ref a_this_starts, .ref a_this_paces, .ref a_this_brights, .int v_tenants, .ref a_this_purses, .ref a_this_leases])), (a_p2, .inl (G.2.1, 5, .inl v_p2)), (a_this_starts, .inl (G.2.1, 8, .inl v_starts)), (a_this_paces, .inl (G.2.1, 8, .inl v_paces)), (a_this_brights, .inl (G.2.1, 8, .inl v_brights)), (a_this_purses, .inl (G.2.1, 4, .inl v_purses)), (a_this_leases, .inr (6, [.int v_leases_most, .ref a_this_leases_parts, .int v_leases_size])), (a_this_leases_parts, .inl (G.2.1, 50, .inl v_leases_parts))] sz) := by
  refine Met.ofW (cc := cX5_take) (maxL := 3) (ret := none) (by decide) rfl ?_
  intro p e s m args below meth c s₁ B hml hv
  obtain ⟨hargs, hsz, hP, hD0, hE⟩ := hv
  have hx := B.exec
  have hb := B.bytes
  have hr := B.returns
  have hts := atoms_spec (ws := wsX5_take) B.pre
  have hown : s.vm.findClass RX5 = some m.cls := findClass_of_methodNamed B.named
  have hlocks := B.notSynchronized
  have hK := hE.1
  have hC : CallFix p m c cX5_take 3 s args wsX5_take RX5 := ⟨hx, hb, hml, hown, hts⟩
  have inX5 : ∀ w ∈ wsX50, w ∈ wsX5_take := by decide +kernel
  have lk9 := hts (.fieldLink RX5 9 "SkyLeases$Sky" "squares" "I") (by decide +kernel)
  have lk15 := hts (.fieldLink RX5 15 "SkyLeases$Sky" "stars" "I") (by decide +kernel)
  have lk18 := hts (.fieldLink RX5 18 "SkyLeases$Sky" "starts" "[I") (by decide +kernel)
  have lk22 := hts (.fieldLink RX5 22 "SkyLeases$Sky" "paces" "[I") (by decide +kernel)
  have lk25 := hts (.fieldLink RX5 25 "SkyLeases$Sky" "brights" "[I") (by decide +kernel)
  have lk28 := hts (.fieldLink RX5 28 "SkyLeases$Sky" "tenants" "I") (by decide +kernel)
  have lk31 := hts (.fieldLink RX5 31 "SkyLeases$Sky" "purses" "[I") (by decide +kernel)
  have lk39 := hts (.fieldLink RX5 39 "SkyLeases$Sky" "leases" "LSkyLeases$Terms;") (by decide +kernel)
  subst hsz
  have hD := hD0.self (sz := s.heap.size)
  generalize hAe : va_A [(a_this, .inr (5, [.int v_squares, .int v_stars, .ref a_this_starts, .ref a_this_paces, .ref a_this_brights, .int v_tenants, .ref a_this_purses, .ref a_this_leases])), (a_p2, .inl (G.2.1, 5, .inl v_p2)), (a_this_starts, .inl (G.2.1, 8, .inl v_starts)), (a_this_paces, .inl (G.2.1, 8, .inl v_paces)), (a_this_brights, .inl (G.2.1, 8, .inl v_brights)), (a_this_purses, .inl (G.2.1, 4, .inl v_purses)), (a_this_leases, .inr (6, [.int v_leases_most, .ref a_this_leases_parts, .int v_leases_size])), (a_this_leases_parts, .inl (G.2.1, 50, .inl v_leases_parts))] s.heap.size = A at hD ⊢
  have hA : ∀ q : Nat, s.heap.size ≤ q → A q := fun q h => by rw [← hAe]; exact Or.inr h
  have hS : va_S A s.heap s.heap [] := va_S.rf
  have hP : va_P G.1 vwCl [(a_this, .inr (5, [.int v_squares, .int v_stars, .ref a_this_starts, .ref a_this_paces, .ref a_this_brights, .int v_tenants, .ref a_this_purses, .ref a_this_leases])), (a_p2, .inl (G.2.1, 5, .inl v_p2)), (a_this_starts, .inl (G.2.1, 8, .inl v_starts)), (a_this_paces, .inl (G.2.1, 8, .inl v_paces)), (a_this_brights, .inl (G.2.1, 8, .inl v_brights)), (a_this_purses, .inl (G.2.1, 4, .inl v_purses)), (a_this_leases, .inr (6, [.int v_leases_most, .ref a_this_leases_parts, .int v_leases_size])), (a_this_leases_parts, .inl (G.2.1, 50, .inl v_leases_parts))] s.heap := hP
  have hl := lv_entry ([.ref a_this, .int g1, .ref a_p2]) (n := 3) (Nat.le_of_ble_eq_true rfl)
  have hent : entryFrame m args 3 = F0 m 0 ((lg_sl ([.ref a_this, .int g1, .ref a_p2]) ++ List.replicate (3 - (lg_sl ([.ref a_this, .int g1, .ref a_p2])).length) Slot.unset).toArray) [] := by rw [hargs]; exact lg_entry_eq m [.ref a_this, .int g1, .ref a_p2] 3
  refine W.eq hent ?_
  clear hent
  generalize (lg_sl ([.ref a_this, .int g1, .ref a_p2]) ++ List.replicate (3 - (lg_sl ([.ref a_this, .int g1, .ref a_p2])).length) Slot.unset).toArray = ls at hl ⊢
  have hl : lv_has ls 3 [(0, .ref a_this), (1, .int g1), (2, .ref a_p2)] := hl
  generalize hQ : MQ below _ args s 0 0 _ = QQ
  change W p l e rm_X5_take s m args below meth c s.heap [] 0 0 QQ _
  have j117 : ∀ (x1 : Int32), ∀ (v_squares : Int32), ∀ (v_stars : Int32), ∀ (v_tenants : Int32), ∀ (v_starts : (Nat → Int32)), ∀ (v_paces : (Nat → Int32)), ∀ (v_brights : (Nat → Int32)), ∀ (v_purses : (Nat → Int32)), ∀ (v_leases_size : Int32), ∀ (v_leases_parts : (Nat → Int32)), ∀ (ls : Array Slot), lv_has ls 3 [(0, .ref a_this), (1, .int x1), (2, .ref a_p2)] → ∀ (H : Heap) (locs : List Loc), va_P G.1 vwCl [(a_this, .inr (5, [.int v_squares, .int v_stars, .ref a_this_starts, .ref a_this_paces, .ref a_this_brights, .int v_tenants, .ref a_this_purses, .ref a_this_leases])), (a_p2, .inl (G.2.1, 5, .inl v_p2)), (a_this_starts, .inl (G.2.1, 8, .inl v_starts)), (a_this_paces, .inl (G.2.1, 8, .inl v_paces)), (a_this_brights, .inl (G.2.1, 8, .inl v_brights)), (a_this_purses, .inl (G.2.1, 4, .inl v_purses)), (a_this_leases, .inr (6, [.int v_leases_most, .ref a_this_leases_parts, .int v_leases_size])), (a_this_leases_parts, .inl (G.2.1, 50, .inl v_leases_parts))] H → va_D A [(a_this, .inr (5, [.int v_squares, .int v_stars, .ref a_this_starts, .ref a_this_paces, .ref a_this_brights, .int v_tenants, .ref a_this_purses, .ref a_this_leases])), (a_p2, .inl (G.2.1, 5, .inl v_p2)), (a_this_starts, .inl (G.2.1, 8, .inl v_starts)), (a_this_paces, .inl (G.2.1, 8, .inl v_paces)), (a_this_brights, .inl (G.2.1, 8, .inl v_brights)), (a_this_purses, .inl (G.2.1, 4, .inl v_purses)), (a_this_leases, .inr (6, [.int v_leases_most, .ref a_this_leases_parts, .int v_leases_size])), (a_this_leases_parts, .inl (G.2.1, 50, .inl v_leases_parts))] → va_S A s.heap H locs → f_X5_take_b117 v_p2 v_leases_most x1 v_squares v_stars v_tenants v_starts v_paces v_brights v_purses v_leases_size v_leases_parts = some (R1, R2, R3, R4, R5, R6, R7, R8, R9) → W p l e rm_X5_take s m args below meth c H locs 0 0 QQ (F0 m 117 ls []) := by
    intro x1 v_squares v_stars v_tenants v_starts v_paces v_brights v_purses v_leases_size v_leases_parts ls hl H locs hP hD hS hf
    unfold f_X5_take_b117 at hf
    refine lv_iload_n hx hb dX5_take_117 rfl (lv_at hl 1 rfl) ?_
    refine lv_bipush (v := (7 : Int32)) hx hb dX5_take_118 (by decide) ?_
    refine lv_icmp_ne (tgt := 145) hx hb dX5_take_120 (by decide) (fun hc27 => ?_) (fun hc27 => ?_)
    · have hf := if_f hf hc27
      obtain ⟨hr0, hr1, hr2, hr3, hr4, hr5, hr6, hr7, hr8⟩ := so9 hf
      subst hr0
      subst hr1
      subst hr2
      subst hr3
      subst hr4
      subst hr5
      subst hr6
      subst hr7
      subst hr8
      rw [← hQ]
      exact W.vret hx hb hr (fun t ht hW => ⟨⟨rfl, by rw [ht]; exact hP⟩, hS.F ht⟩) hS.2.2 dX5_take_145
    · have hf := if_t hf hc27
      refine lv_aload_n hx hb dX5_take_123 rfl (lv_at hl 0 rfl) ?_
      refine va_get (D := G.1) (ci := 5) (v := .ref a_this_leases) (C := RX5) (T := TX5) (N := 8) hx hb hts inX5 hown hK hP 0 rfl rfl 7 (by decide) lk39 (fun _ h9 => h9) rfl dX5_take_124 ?_
      refine lv_aload_n hx hb dX5_take_127 rfl (lv_at hl 2 rfl) ?_
      refine lv_iconst (v := (0 : Int32)) hx hb dX5_take_128 (by decide) ?_
      obtain ⟨hg28, hf⟩ := gd_some hf
      refine va_iald hx hb hK hP 1 0 rfl rfl (inB_in hg28) dX5_take_129 ?_
      refine lv_aload_n hx hb dX5_take_130 rfl (lv_at hl 2 rfl) ?_
      refine lv_iconst (v := (1 : Int32)) hx hb dX5_take_131 (by decide) ?_
      obtain ⟨hg29, hf⟩ := gd_some hf
      refine va_iald hx hb hK hP 1 0 rfl rfl (inB_in hg29) dX5_take_132 ?_
      refine lv_aload_n hx hb dX5_take_133 rfl (lv_at hl 2 rfl) ?_
      refine lv_iconst (v := (2 : Int32)) hx hb dX5_take_134 (by decide) ?_
      obtain ⟨hg30, hf⟩ := gd_some hf
      refine va_iald hx hb hK hP 1 0 rfl rfl (inB_in hg30) dX5_take_135 ?_
      refine lv_aload_n hx hb dX5_take_136 rfl (lv_at hl 2 rfl) ?_
      refine lv_iconst (v := (3 : Int32)) hx hb dX5_take_137 (by decide) ?_
      obtain ⟨hg31, hf⟩ := gd_some hf
      refine va_iald hx hb hK hP 1 0 rfl rfl (inB_in hg31) dX5_take_138 ?_
      refine lv_aload_n hx hb dX5_take_139 rfl (lv_at hl 2 rfl) ?_
      refine lv_iconst (v := (4 : Int32)) hx hb dX5_take_140 (by decide) ?_
      obtain ⟨hg32, hf⟩ := gd_some hf
      refine va_iald hx hb hK hP 1 0 rfl rfl (inB_in hg32) dX5_take_141 ?_
      obtain ⟨w33, w34, hu, hf⟩ := bd2_some hf
      refine zWn (wr := [(a_this, .inr (5, [.int v_squares, .int v_stars, .ref a_this_starts, .ref a_this_paces, .ref a_this_brights, .int v_tenants, .ref a_this_purses, .ref a_this_leases])), (a_p2, .inl (G.2.1, 5, .inl v_p2)), (a_this_starts, .inl (G.2.1, 8, .inl v_starts)), (a_this_paces, .inl (G.2.1, 8, .inl v_paces)), (a_this_brights, .inl (G.2.1, 8, .inl v_brights)), (a_this_purses, .inl (G.2.1, 4, .inl v_purses))]) (ws2 := [(a_this, .inr (5, [.int v_squares, .int v_stars, .ref a_this_starts, .ref a_this_paces, .ref a_this_brights, .int v_tenants, .ref a_this_purses, .ref a_this_leases])), (a_p2, .inl (G.2.1, 5, .inl v_p2)), (a_this_starts, .inl (G.2.1, 8, .inl v_starts)), (a_this_paces, .inl (G.2.1, 8, .inl v_paces)), (a_this_brights, .inl (G.2.1, 8, .inl v_brights)), (a_this_purses, .inl (G.2.1, 4, .inl v_purses)), (a_this_leases, .inr (6, [.int v_leases_most, .ref a_this_leases_parts, .int w33])), (a_this_leases_parts, .inl (G.2.1, 50, .inl w34))]) (va_runV (As := [.int (v_p2 ((0 : Int32)).toNatClampNeg), .int (v_p2 ((1 : Int32)).toNatClampNeg), .int (v_p2 ((2 : Int32)).toNatClampNeg), .int (v_p2 ((3 : Int32)).toNatClampNeg), .int (v_p2 ((4 : Int32)).toNatClampNeg)]) (rest := []) hC (c_X6_add l G _ a_this_leases a_this_leases_parts (v_leases_most) (v_leases_size) (v_leases_parts) ((v_p2 ((0 : Int32)).toNatClampNeg)) ((v_p2 ((1 : Int32)).toNatClampNeg)) ((v_p2 ((2 : Int32)).toNatClampNeg)) ((v_p2 ((3 : Int32)).toNatClampNeg)) ((v_p2 ((4 : Int32)).toNatClampNeg)) w33 w34 hu) (cwV 5 hts gX5_take_X6_add rfl rfl rfl hd_X6_add ⟨(Nat.le_of_ble_eq_true rfl), (Nat.le_of_ble_eq_true rfl)⟩) (zPVw hE hP hD [6, 7] rfl rfl 6 rfl rfl) rfl rfl hl.1 rfl (lv_room (Nat.le_of_ble_eq_true rfl)) dX5_take_142 ⟨Nat.zero_le _, Nat.zero_le _⟩) hP hD hS hA [6, 7] [0, 1, 2, 3, 4, 5] [0, 1, 2, 3, 4, 5, 6, 7] rfl rfl rfl rfl (by decide) rfl rfl rfl (fun H locs hP hD hS => ?_)
      obtain ⟨hr0, hr1, hr2, hr3, hr4, hr5, hr6, hr7, hr8⟩ := so9 hf
      subst hr0
      subst hr1
      subst hr2
      subst hr3
      subst hr4
      subst hr5
      subst hr6
      subst hr7
      subst hr8
      rw [← hQ]
      exact W.vret hx hb hr (fun t ht hW => ⟨⟨rfl, by rw [ht]; exact hP⟩, hS.F ht⟩) hS.2.2 dX5_take_145
  have j78 : ∀ (x1 : Int32), ∀ (v_squares : Int32), ∀ (v_stars : Int32), ∀ (v_tenants : Int32), ∀ (v_starts : (Nat → Int32)), ∀ (v_paces : (Nat → Int32)), ∀ (v_brights : (Nat → Int32)), ∀ (v_purses : (Nat → Int32)), ∀ (v_leases_size : Int32), ∀ (v_leases_parts : (Nat → Int32)), ∀ (ls : Array Slot), lv_has ls 3 [(0, .ref a_this), (1, .int x1), (2, .ref a_p2)] → ∀ (H : Heap) (locs : List Loc), va_P G.1 vwCl [(a_this, .inr (5, [.int v_squares, .int v_stars, .ref a_this_starts, .ref a_this_paces, .ref a_this_brights, .int v_tenants, .ref a_this_purses, .ref a_this_leases])), (a_p2, .inl (G.2.1, 5, .inl v_p2)), (a_this_starts, .inl (G.2.1, 8, .inl v_starts)), (a_this_paces, .inl (G.2.1, 8, .inl v_paces)), (a_this_brights, .inl (G.2.1, 8, .inl v_brights)), (a_this_purses, .inl (G.2.1, 4, .inl v_purses)), (a_this_leases, .inr (6, [.int v_leases_most, .ref a_this_leases_parts, .int v_leases_size])), (a_this_leases_parts, .inl (G.2.1, 50, .inl v_leases_parts))] H → va_D A [(a_this, .inr (5, [.int v_squares, .int v_stars, .ref a_this_starts, .ref a_this_paces, .ref a_this_brights, .int v_tenants, .ref a_this_purses, .ref a_this_leases])), (a_p2, .inl (G.2.1, 5, .inl v_p2)), (a_this_starts, .inl (G.2.1, 8, .inl v_starts)), (a_this_paces, .inl (G.2.1, 8, .inl v_paces)), (a_this_brights, .inl (G.2.1, 8, .inl v_brights)), (a_this_purses, .inl (G.2.1, 4, .inl v_purses)), (a_this_leases, .inr (6, [.int v_leases_most, .ref a_this_leases_parts, .int v_leases_size])), (a_this_leases_parts, .inl (G.2.1, 50, .inl v_leases_parts))] → va_S A s.heap H locs → f_X5_take_b78 v_p2 v_leases_most x1 v_squares v_stars v_tenants v_starts v_paces v_brights v_purses v_leases_size v_leases_parts = some (R1, R2, R3, R4, R5, R6, R7, R8, R9) → W p l e rm_X5_take s m args below meth c H locs 0 0 QQ (F0 m 78 ls []) := by
    intro x1 v_squares v_stars v_tenants v_starts v_paces v_brights v_purses v_leases_size v_leases_parts ls hl H locs hP hD hS hf
    unfold f_X5_take_b78 at hf
    refine lv_iload_n hx hb dX5_take_78 rfl (lv_at hl 1 rfl) ?_
    refine lv_bipush (v := (6 : Int32)) hx hb dX5_take_79 (by decide) ?_
    refine lv_icmp_ne (tgt := 117) hx hb dX5_take_81 (by decide) (fun hc35 => ?_) (fun hc35 => ?_)
    · have hf := if_f hf hc35
      exact j117 (x1) (v_squares) (v_stars) (v_tenants) (v_starts) (v_paces) (v_brights) (v_purses) (v_leases_size) (v_leases_parts) ls (lv_sub hl [0, 1, 2] rfl) _ _ hP hD hS hf
    · have hf := if_t hf hc35
      refine lv_aload_n hx hb dX5_take_84 rfl (lv_at hl 0 rfl) ?_
      refine va_get (D := G.1) (ci := 5) (v := .int v_tenants) (C := RX5) (T := TX5) (N := 8) hx hb hts inX5 hown hK hP 0 rfl rfl 5 (by decide) lk28 (fun _ h9 => h9) rfl dX5_take_85 ?_
      refine lv_iconst (v := (4 : Int32)) hx hb dX5_take_88 (by decide) ?_
      refine lv_icmp_ge (tgt := 117) hx hb dX5_take_89 (by decide) (fun hc36 => ?_) (fun hc36 => ?_)
      · have hf := if_t hf hc36
        exact j117 (x1) (v_squares) (v_stars) (v_tenants) (v_starts) (v_paces) (v_brights) (v_purses) (v_leases_size) (v_leases_parts) ls (lv_sub hl [0, 1, 2] rfl) _ _ hP hD hS hf
      · have hf := if_f hf hc36
        refine lv_aload_n hx hb dX5_take_92 rfl (lv_at hl 0 rfl) ?_
        refine va_get (D := G.1) (ci := 5) (v := .ref a_this_purses) (C := RX5) (T := TX5) (N := 8) hx hb hts inX5 hown hK hP 0 rfl rfl 6 (by decide) lk31 (fun _ h9 => h9) rfl dX5_take_93 ?_
        refine lv_aload_n hx hb dX5_take_96 rfl (lv_at hl 0 rfl) ?_
        refine va_get (D := G.1) (ci := 5) (v := .int v_tenants) (C := RX5) (T := TX5) (N := 8) hx hb hts inX5 hown hK hP 0 rfl rfl 5 (by decide) lk28 (fun _ h9 => h9) rfl dX5_take_97 ?_
        refine lv_aload_n hx hb dX5_take_100 rfl (lv_at hl 2 rfl) ?_
        refine lv_iconst (v := (0 : Int32)) hx hb dX5_take_101 (by decide) ?_
        obtain ⟨hg37, hf⟩ := gd_some hf
        refine va_iald hx hb hK hP 1 0 rfl rfl (inB_in hg37) dX5_take_102 ?_
        obtain ⟨hg38, hf⟩ := gd_some hf
        refine z_iast hx hb hK hP hD hS 5 0 rfl rfl (inB_in hg38) dX5_take_103 (fun gg => [(a_this, .inr (5, [.int v_squares, .int v_stars, .ref a_this_starts, .ref a_this_paces, .ref a_this_brights, .int v_tenants, .ref a_this_purses, .ref a_this_leases])), (a_p2, .inl (G.2.1, 5, .inl v_p2)), (a_this_starts, .inl (G.2.1, 8, .inl v_starts)), (a_this_paces, .inl (G.2.1, 8, .inl v_paces)), (a_this_brights, .inl (G.2.1, 8, .inl v_brights)), (a_this_purses, .inl (G.2.1, 4, .inl gg)), (a_this_leases, .inr (6, [.int v_leases_most, .ref a_this_leases_parts, .int v_leases_size])), (a_this_leases_parts, .inl (G.2.1, 50, .inl v_leases_parts))]) (fun gg => rfl) (fun y39 H locs ey39 hP hD hS => ?_)
        have hf := nm_to hf ey39
        have hP : va_P G.1 vwCl [(a_this, .inr (5, [.int v_squares, .int v_stars, .ref a_this_starts, .ref a_this_paces, .ref a_this_brights, .int v_tenants, .ref a_this_purses, .ref a_this_leases])), (a_p2, .inl (G.2.1, 5, .inl v_p2)), (a_this_starts, .inl (G.2.1, 8, .inl v_starts)), (a_this_paces, .inl (G.2.1, 8, .inl v_paces)), (a_this_brights, .inl (G.2.1, 8, .inl v_brights)), (a_this_purses, .inl (G.2.1, 4, .inl y39)), (a_this_leases, .inr (6, [.int v_leases_most, .ref a_this_leases_parts, .int v_leases_size])), (a_this_leases_parts, .inl (G.2.1, 50, .inl v_leases_parts))] H := hP
        have hD : va_D A [(a_this, .inr (5, [.int v_squares, .int v_stars, .ref a_this_starts, .ref a_this_paces, .ref a_this_brights, .int v_tenants, .ref a_this_purses, .ref a_this_leases])), (a_p2, .inl (G.2.1, 5, .inl v_p2)), (a_this_starts, .inl (G.2.1, 8, .inl v_starts)), (a_this_paces, .inl (G.2.1, 8, .inl v_paces)), (a_this_brights, .inl (G.2.1, 8, .inl v_brights)), (a_this_purses, .inl (G.2.1, 4, .inl y39)), (a_this_leases, .inr (6, [.int v_leases_most, .ref a_this_leases_parts, .int v_leases_size])), (a_this_leases_parts, .inl (G.2.1, 50, .inl v_leases_parts))] := hD
        refine lv_aload_n hx hb dX5_take_104 rfl (lv_at hl 0 rfl) ?_
        refine lv_dup hx hb dX5_take_105 rfl ?_
        refine va_get (D := G.1) (ci := 5) (v := .int v_tenants) (C := RX5) (T := TX5) (N := 8) hx hb hts inX5 hown hK hP 0 rfl rfl 5 (by decide) lk28 (fun _ h9 => h9) rfl dX5_take_106 ?_
        refine lv_iconst (v := (1 : Int32)) hx hb dX5_take_109 (by decide) ?_
        refine lv_iadd hx hb dX5_take_110 ?_
        refine va_put (D := G.1) (ci := 5) (v := .int (v_tenants + (1 : Int32))) (ty := .int) (C := RX5) (T := TX5) (N := 8) hx hb hts inX5 tyX5 tyX5_ok nmX5 hown hK hP hD hS 0 rfl rfl 5 (by decide) lk28 (fun _ h9 => h9) rfl (by decide +kernel) rfl rfl (Nat.le_of_ble_eq_true rfl) dX5_take_111 (fun H locs hP hD hS => ?_)
        have hP : va_P G.1 vwCl [(a_this, .inr (5, [.int v_squares, .int v_stars, .ref a_this_starts, .ref a_this_paces, .ref a_this_brights, .int (v_tenants + (1 : Int32)), .ref a_this_purses, .ref a_this_leases])), (a_p2, .inl (G.2.1, 5, .inl v_p2)), (a_this_starts, .inl (G.2.1, 8, .inl v_starts)), (a_this_paces, .inl (G.2.1, 8, .inl v_paces)), (a_this_brights, .inl (G.2.1, 8, .inl v_brights)), (a_this_purses, .inl (G.2.1, 4, .inl y39)), (a_this_leases, .inr (6, [.int v_leases_most, .ref a_this_leases_parts, .int v_leases_size])), (a_this_leases_parts, .inl (G.2.1, 50, .inl v_leases_parts))] H := hP
        have hD : va_D A [(a_this, .inr (5, [.int v_squares, .int v_stars, .ref a_this_starts, .ref a_this_paces, .ref a_this_brights, .int (v_tenants + (1 : Int32)), .ref a_this_purses, .ref a_this_leases])), (a_p2, .inl (G.2.1, 5, .inl v_p2)), (a_this_starts, .inl (G.2.1, 8, .inl v_starts)), (a_this_paces, .inl (G.2.1, 8, .inl v_paces)), (a_this_brights, .inl (G.2.1, 8, .inl v_brights)), (a_this_purses, .inl (G.2.1, 4, .inl y39)), (a_this_leases, .inr (6, [.int v_leases_most, .ref a_this_leases_parts, .int v_leases_size])), (a_this_leases_parts, .inl (G.2.1, 50, .inl v_leases_parts))] := hD
        refine lv_goto (tgt := 145) hx hb dX5_take_114 (by decide) ?_
        obtain ⟨hr0, hr1, hr2, hr3, hr4, hr5, hr6, hr7, hr8⟩ := so9 hf
        subst hr0
        subst hr1
        subst hr2
        subst hr3
        subst hr4
        subst hr5
        subst hr6
        subst hr7
        subst hr8
        rw [← hQ]
        exact W.vret hx hb hr (fun t ht hW => ⟨⟨rfl, by rw [ht]; exact hP⟩, hS.F ht⟩) hS.2.2 dX5_take_145
  have hSH := hS
  unfold f_X5_take at hf
  refine lv_iload_n hx hb dX5_take_0 rfl (lv_at hl 1 rfl) ?_
  refine lv_iconst (v := (4 : Int32)) hx hb dX5_take_1 (by decide) ?_
  refine lv_icmp_ne (tgt := 15) hx hb dX5_take_2 (by decide) (fun hc40 => ?_) (fun hc40 => ?_)
  · have hf := if_f hf hc40
    refine lv_iload_n hx hb dX5_take_15 rfl (lv_at hl 1 rfl) ?_
    refine lv_iconst (v := (5 : Int32)) hx hb dX5_take_16 (by decide) ?_
    refine lv_icmp_ne (tgt := 78) hx hb dX5_take_17 (by decide) (fun hc41 => ?_) (fun hc41 => ?_)
    · have hf := if_f hf hc41
      exact j78 (g1) (v_squares) (v_stars) (v_tenants) (v_starts) (v_paces) (v_brights) (v_purses) (v_leases_size) (v_leases_parts) ls (lv_sub hl [0, 1, 2] rfl) _ _ hP hD hS hf
    · have hf := if_t hf hc41
      refine lv_aload_n hx hb dX5_take_20 rfl (lv_at hl 0 rfl) ?_
      refine va_get (D := G.1) (ci := 5) (v := .int v_stars) (C := RX5) (T := TX5) (N := 8) hx hb hts inX5 hown hK hP 0 rfl rfl 1 (by decide) lk15 (fun _ h9 => h9) rfl dX5_take_21 ?_
      refine lv_bipush (v := (8 : Int32)) hx hb dX5_take_24 (by decide) ?_
      refine lv_icmp_ge (tgt := 78) hx hb dX5_take_26 (by decide) (fun hc42 => ?_) (fun hc42 => ?_)
      · have hf := if_t hf hc42
        exact j78 (g1) (v_squares) (v_stars) (v_tenants) (v_starts) (v_paces) (v_brights) (v_purses) (v_leases_size) (v_leases_parts) ls (lv_sub hl [0, 1, 2] rfl) _ _ hP hD hS hf
      · have hf := if_f hf hc42
        refine lv_aload_n hx hb dX5_take_29 rfl (lv_at hl 0 rfl) ?_
        refine va_get (D := G.1) (ci := 5) (v := .ref a_this_starts) (C := RX5) (T := TX5) (N := 8) hx hb hts inX5 hown hK hP 0 rfl rfl 2 (by decide) lk18 (fun _ h9 => h9) rfl dX5_take_30 ?_
        refine lv_aload_n hx hb dX5_take_33 rfl (lv_at hl 0 rfl) ?_
        refine va_get (D := G.1) (ci := 5) (v := .int v_stars) (C := RX5) (T := TX5) (N := 8) hx hb hts inX5 hown hK hP 0 rfl rfl 1 (by decide) lk15 (fun _ h9 => h9) rfl dX5_take_34 ?_
        refine lv_aload_n hx hb dX5_take_37 rfl (lv_at hl 2 rfl) ?_
        refine lv_iconst (v := (0 : Int32)) hx hb dX5_take_38 (by decide) ?_
        obtain ⟨hg43, hf⟩ := gd_some hf
        refine va_iald hx hb hK hP 1 0 rfl rfl (inB_in hg43) dX5_take_39 ?_
        obtain ⟨hg44, hf⟩ := gd_some hf
        refine z_iast hx hb hK hP hD hS 2 0 rfl rfl (inB_in hg44) dX5_take_40 (fun gg => [(a_this, .inr (5, [.int v_squares, .int v_stars, .ref a_this_starts, .ref a_this_paces, .ref a_this_brights, .int v_tenants, .ref a_this_purses, .ref a_this_leases])), (a_p2, .inl (G.2.1, 5, .inl v_p2)), (a_this_starts, .inl (G.2.1, 8, .inl gg)), (a_this_paces, .inl (G.2.1, 8, .inl v_paces)), (a_this_brights, .inl (G.2.1, 8, .inl v_brights)), (a_this_purses, .inl (G.2.1, 4, .inl v_purses)), (a_this_leases, .inr (6, [.int v_leases_most, .ref a_this_leases_parts, .int v_leases_size])), (a_this_leases_parts, .inl (G.2.1, 50, .inl v_leases_parts))]) (fun gg => rfl) (fun y45 H locs ey45 hP hD hS => ?_)
        have hf := nm_to hf ey45
        have hP : va_P G.1 vwCl [(a_this, .inr (5, [.int v_squares, .int v_stars, .ref a_this_starts, .ref a_this_paces, .ref a_this_brights, .int v_tenants, .ref a_this_purses, .ref a_this_leases])), (a_p2, .inl (G.2.1, 5, .inl v_p2)), (a_this_starts, .inl (G.2.1, 8, .inl y45)), (a_this_paces, .inl (G.2.1, 8, .inl v_paces)), (a_this_brights, .inl (G.2.1, 8, .inl v_brights)), (a_this_purses, .inl (G.2.1, 4, .inl v_purses)), (a_this_leases, .inr (6, [.int v_leases_most, .ref a_this_leases_parts, .int v_leases_size])), (a_this_leases_parts, .inl (G.2.1, 50, .inl v_leases_parts))] H := hP
        have hD : va_D A [(a_this, .inr (5, [.int v_squares, .int v_stars, .ref a_this_starts, .ref a_this_paces, .ref a_this_brights, .int v_tenants, .ref a_this_purses, .ref a_this_leases])), (a_p2, .inl (G.2.1, 5, .inl v_p2)), (a_this_starts, .inl (G.2.1, 8, .inl y45)), (a_this_paces, .inl (G.2.1, 8, .inl v_paces)), (a_this_brights, .inl (G.2.1, 8, .inl v_brights)), (a_this_purses, .inl (G.2.1, 4, .inl v_purses)), (a_this_leases, .inr (6, [.int v_leases_most, .ref a_this_leases_parts, .int v_leases_size])), (a_this_leases_parts, .inl (G.2.1, 50, .inl v_leases_parts))] := hD
        refine lv_aload_n hx hb dX5_take_41 rfl (lv_at hl 0 rfl) ?_
        refine va_get (D := G.1) (ci := 5) (v := .ref a_this_paces) (C := RX5) (T := TX5) (N := 8) hx hb hts inX5 hown hK hP 0 rfl rfl 3 (by decide) lk22 (fun _ h9 => h9) rfl dX5_take_42 ?_
        refine lv_aload_n hx hb dX5_take_45 rfl (lv_at hl 0 rfl) ?_
        refine va_get (D := G.1) (ci := 5) (v := .int v_stars) (C := RX5) (T := TX5) (N := 8) hx hb hts inX5 hown hK hP 0 rfl rfl 1 (by decide) lk15 (fun _ h9 => h9) rfl dX5_take_46 ?_
        refine lv_aload_n hx hb dX5_take_49 rfl (lv_at hl 2 rfl) ?_
        refine lv_iconst (v := (1 : Int32)) hx hb dX5_take_50 (by decide) ?_
        obtain ⟨hg46, hf⟩ := gd_some hf
        refine va_iald hx hb hK hP 1 0 rfl rfl (inB_in hg46) dX5_take_51 ?_
        obtain ⟨hg47, hf⟩ := gd_some hf
        refine z_iast hx hb hK hP hD hS 3 0 rfl rfl (inB_in hg47) dX5_take_52 (fun gg => [(a_this, .inr (5, [.int v_squares, .int v_stars, .ref a_this_starts, .ref a_this_paces, .ref a_this_brights, .int v_tenants, .ref a_this_purses, .ref a_this_leases])), (a_p2, .inl (G.2.1, 5, .inl v_p2)), (a_this_starts, .inl (G.2.1, 8, .inl y45)), (a_this_paces, .inl (G.2.1, 8, .inl gg)), (a_this_brights, .inl (G.2.1, 8, .inl v_brights)), (a_this_purses, .inl (G.2.1, 4, .inl v_purses)), (a_this_leases, .inr (6, [.int v_leases_most, .ref a_this_leases_parts, .int v_leases_size])), (a_this_leases_parts, .inl (G.2.1, 50, .inl v_leases_parts))]) (fun gg => rfl) (fun y48 H locs ey48 hP hD hS => ?_)
        have hf := nm_to hf ey48
        have hP : va_P G.1 vwCl [(a_this, .inr (5, [.int v_squares, .int v_stars, .ref a_this_starts, .ref a_this_paces, .ref a_this_brights, .int v_tenants, .ref a_this_purses, .ref a_this_leases])), (a_p2, .inl (G.2.1, 5, .inl v_p2)), (a_this_starts, .inl (G.2.1, 8, .inl y45)), (a_this_paces, .inl (G.2.1, 8, .inl y48)), (a_this_brights, .inl (G.2.1, 8, .inl v_brights)), (a_this_purses, .inl (G.2.1, 4, .inl v_purses)), (a_this_leases, .inr (6, [.int v_leases_most, .ref a_this_leases_parts, .int v_leases_size])), (a_this_leases_parts, .inl (G.2.1, 50, .inl v_leases_parts))] H := hP
        have hD : va_D A [(a_this, .inr (5, [.int v_squares, .int v_stars, .ref a_this_starts, .ref a_this_paces, .ref a_this_brights, .int v_tenants, .ref a_this_purses, .ref a_this_leases])), (a_p2, .inl (G.2.1, 5, .inl v_p2)), (a_this_starts, .inl (G.2.1, 8, .inl y45)), (a_this_paces, .inl (G.2.1, 8, .inl y48)), (a_this_brights, .inl (G.2.1, 8, .inl v_brights)), (a_this_purses, .inl (G.2.1, 4, .inl v_purses)), (a_this_leases, .inr (6, [.int v_leases_most, .ref a_this_leases_parts, .int v_leases_size])), (a_this_leases_parts, .inl (G.2.1, 50, .inl v_leases_parts))] := hD
        refine lv_aload_n hx hb dX5_take_53 rfl (lv_at hl 0 rfl) ?_
        refine va_get (D := G.1) (ci := 5) (v := .ref a_this_brights) (C := RX5) (T := TX5) (N := 8) hx hb hts inX5 hown hK hP 0 rfl rfl 4 (by decide) lk25 (fun _ h9 => h9) rfl dX5_take_54 ?_
        refine lv_aload_n hx hb dX5_take_57 rfl (lv_at hl 0 rfl) ?_
        refine va_get (D := G.1) (ci := 5) (v := .int v_stars) (C := RX5) (T := TX5) (N := 8) hx hb hts inX5 hown hK hP 0 rfl rfl 1 (by decide) lk15 (fun _ h9 => h9) rfl dX5_take_58 ?_
        refine lv_aload_n hx hb dX5_take_61 rfl (lv_at hl 2 rfl) ?_
        refine lv_iconst (v := (2 : Int32)) hx hb dX5_take_62 (by decide) ?_
        obtain ⟨hg49, hf⟩ := gd_some hf
        refine va_iald hx hb hK hP 1 0 rfl rfl (inB_in hg49) dX5_take_63 ?_
        obtain ⟨hg50, hf⟩ := gd_some hf
        refine z_iast hx hb hK hP hD hS 4 0 rfl rfl (inB_in hg50) dX5_take_64 (fun gg => [(a_this, .inr (5, [.int v_squares, .int v_stars, .ref a_this_starts, .ref a_this_paces, .ref a_this_brights, .int v_tenants, .ref a_this_purses, .ref a_this_leases])), (a_p2, .inl (G.2.1, 5, .inl v_p2)), (a_this_starts, .inl (G.2.1, 8, .inl y45)), (a_this_paces, .inl (G.2.1, 8, .inl y48)), (a_this_brights, .inl (G.2.1, 8, .inl gg)), (a_this_purses, .inl (G.2.1, 4, .inl v_purses)), (a_this_leases, .inr (6, [.int v_leases_most, .ref a_this_leases_parts, .int v_leases_size])), (a_this_leases_parts, .inl (G.2.1, 50, .inl v_leases_parts))]) (fun gg => rfl) (fun y51 H locs ey51 hP hD hS => ?_)
        have hf := nm_to hf ey51
        have hP : va_P G.1 vwCl [(a_this, .inr (5, [.int v_squares, .int v_stars, .ref a_this_starts, .ref a_this_paces, .ref a_this_brights, .int v_tenants, .ref a_this_purses, .ref a_this_leases])), (a_p2, .inl (G.2.1, 5, .inl v_p2)), (a_this_starts, .inl (G.2.1, 8, .inl y45)), (a_this_paces, .inl (G.2.1, 8, .inl y48)), (a_this_brights, .inl (G.2.1, 8, .inl y51)), (a_this_purses, .inl (G.2.1, 4, .inl v_purses)), (a_this_leases, .inr (6, [.int v_leases_most, .ref a_this_leases_parts, .int v_leases_size])), (a_this_leases_parts, .inl (G.2.1, 50, .inl v_leases_parts))] H := hP
        have hD : va_D A [(a_this, .inr (5, [.int v_squares, .int v_stars, .ref a_this_starts, .ref a_this_paces, .ref a_this_brights, .int v_tenants, .ref a_this_purses, .ref a_this_leases])), (a_p2, .inl (G.2.1, 5, .inl v_p2)), (a_this_starts, .inl (G.2.1, 8, .inl y45)), (a_this_paces, .inl (G.2.1, 8, .inl y48)), (a_this_brights, .inl (G.2.1, 8, .inl y51)), (a_this_purses, .inl (G.2.1, 4, .inl v_purses)), (a_this_leases, .inr (6, [.int v_leases_most, .ref a_this_leases_parts, .int v_leases_size])), (a_this_leases_parts, .inl (G.2.1, 50, .inl v_leases_parts))] := hD
        refine lv_aload_n hx hb dX5_take_65 rfl (lv_at hl 0 rfl) ?_
        refine lv_dup hx hb dX5_take_66 rfl ?_
        refine va_get (D := G.1) (ci := 5) (v := .int v_stars) (C := RX5) (T := TX5) (N := 8) hx hb hts inX5 hown hK hP 0 rfl rfl 1 (by decide) lk15 (fun _ h9 => h9) rfl dX5_take_67 ?_
        refine lv_iconst (v := (1 : Int32)) hx hb dX5_take_70 (by decide) ?_
        refine lv_iadd hx hb dX5_take_71 ?_
        refine va_put (D := G.1) (ci := 5) (v := .int (v_stars + (1 : Int32))) (ty := .int) (C := RX5) (T := TX5) (N := 8) hx hb hts inX5 tyX5 tyX5_ok nmX5 hown hK hP hD hS 0 rfl rfl 1 (by decide) lk15 (fun _ h9 => h9) rfl (by decide +kernel) rfl rfl (Nat.le_of_ble_eq_true rfl) dX5_take_72 (fun H locs hP hD hS => ?_)
        have hP : va_P G.1 vwCl [(a_this, .inr (5, [.int v_squares, .int (v_stars + (1 : Int32)), .ref a_this_starts, .ref a_this_paces, .ref a_this_brights, .int v_tenants, .ref a_this_purses, .ref a_this_leases])), (a_p2, .inl (G.2.1, 5, .inl v_p2)), (a_this_starts, .inl (G.2.1, 8, .inl y45)), (a_this_paces, .inl (G.2.1, 8, .inl y48)), (a_this_brights, .inl (G.2.1, 8, .inl y51)), (a_this_purses, .inl (G.2.1, 4, .inl v_purses)), (a_this_leases, .inr (6, [.int v_leases_most, .ref a_this_leases_parts, .int v_leases_size])), (a_this_leases_parts, .inl (G.2.1, 50, .inl v_leases_parts))] H := hP
        have hD : va_D A [(a_this, .inr (5, [.int v_squares, .int (v_stars + (1 : Int32)), .ref a_this_starts, .ref a_this_paces, .ref a_this_brights, .int v_tenants, .ref a_this_purses, .ref a_this_leases])), (a_p2, .inl (G.2.1, 5, .inl v_p2)), (a_this_starts, .inl (G.2.1, 8, .inl y45)), (a_this_paces, .inl (G.2.1, 8, .inl y48)), (a_this_brights, .inl (G.2.1, 8, .inl y51)), (a_this_purses, .inl (G.2.1, 4, .inl v_purses)), (a_this_leases, .inr (6, [.int v_leases_most, .ref a_this_leases_parts, .int v_leases_size])), (a_this_leases_parts, .inl (G.2.1, 50, .inl v_leases_parts))] := hD
        refine lv_goto (tgt := 145) hx hb dX5_take_75 (by decide) ?_
        obtain ⟨hr0, hr1, hr2, hr3, hr4, hr5, hr6, hr7, hr8⟩ := so9 hf
        subst hr0
        subst hr1
        subst hr2
        subst hr3
        subst hr4
        subst hr5
        subst hr6
        subst hr7
        subst hr8
        rw [← hQ]
        exact W.vret hx hb hr (fun t ht hW => ⟨⟨rfl, by rw [ht]; exact hP⟩, hS.F ht⟩) hS.2.2 dX5_take_145
  · have hf := if_t hf hc40
    refine lv_aload_n hx hb dX5_take_5 rfl (lv_at hl 0 rfl) ?_
    refine lv_aload_n hx hb dX5_take_6 rfl (lv_at hl 2 rfl) ?_
    refine lv_iconst (v := (0 : Int32)) hx hb dX5_take_7 (by decide) ?_
    obtain ⟨hg52, hf⟩ := gd_some hf
    refine va_iald hx hb hK hP 1 0 rfl rfl (inB_in hg52) dX5_take_8 ?_
    refine va_put (D := G.1) (ci := 5) (v := .int (v_p2 ((0 : Int32)).toNatClampNeg)) (ty := .int) (C := RX5) (T := TX5) (N := 8) hx hb hts inX5 tyX5 tyX5_ok nmX5 hown hK hP hD hS 0 rfl rfl 0 (by decide) lk9 (fun _ h9 => h9) rfl (by decide +kernel) rfl rfl (Nat.le_of_ble_eq_true rfl) dX5_take_9 (fun H locs hP hD hS => ?_)
    have hP : va_P G.1 vwCl [(a_this, .inr (5, [.int (v_p2 ((0 : Int32)).toNatClampNeg), .int v_stars, .ref a_this_starts, .ref a_this_paces, .ref a_this_brights, .int v_tenants, .ref a_this_purses, .ref a_this_leases])), (a_p2, .inl (G.2.1, 5, .inl v_p2)), (a_this_starts, .inl (G.2.1, 8, .inl v_starts)), (a_this_paces, .inl (G.2.1, 8, .inl v_paces)), (a_this_brights, .inl (G.2.1, 8, .inl v_brights)), (a_this_purses, .inl (G.2.1, 4, .inl v_purses)), (a_this_leases, .inr (6, [.int v_leases_most, .ref a_this_leases_parts, .int v_leases_size])), (a_this_leases_parts, .inl (G.2.1, 50, .inl v_leases_parts))] H := hP
    have hD : va_D A [(a_this, .inr (5, [.int (v_p2 ((0 : Int32)).toNatClampNeg), .int v_stars, .ref a_this_starts, .ref a_this_paces, .ref a_this_brights, .int v_tenants, .ref a_this_purses, .ref a_this_leases])), (a_p2, .inl (G.2.1, 5, .inl v_p2)), (a_this_starts, .inl (G.2.1, 8, .inl v_starts)), (a_this_paces, .inl (G.2.1, 8, .inl v_paces)), (a_this_brights, .inl (G.2.1, 8, .inl v_brights)), (a_this_purses, .inl (G.2.1, 4, .inl v_purses)), (a_this_leases, .inr (6, [.int v_leases_most, .ref a_this_leases_parts, .int v_leases_size])), (a_this_leases_parts, .inl (G.2.1, 50, .inl v_leases_parts))] := hD
    refine lv_goto (tgt := 145) hx hb dX5_take_12 (by decide) ?_
    obtain ⟨hr0, hr1, hr2, hr3, hr4, hr5, hr6, hr7, hr8⟩ := so9 hf
    subst hr0
    subst hr1
    subst hr2
    subst hr3
    subst hr4
    subst hr5
    subst hr6
    subst hr7
    subst hr8
    rw [← hQ]
    exact W.vret hx hb hr (fun t ht hW => ⟨⟨rfl, by rw [ht]; exact hP⟩, hS.F ht⟩) hS.2.2 dX5_take_145
def f_X5_hasSquare  (v_squares : Int32) (g1 : Int32) : Option (Int32) := if g1 < (0 : Int32) then (some ((0 : Int32))) else (if v_squares ≤ g1 then (some ((0 : Int32))) else (some ((1 : Int32))))
abbrev rm_X5_hasSquare : Room := { frames := 0, cells := 0, slots := 0, locals := 0 }
set_option maxHeartbeats 4000000 in
set_option maxRecDepth 100000 in
theorem c_X5_hasSquare (l : Launch) (G : zG) (a_this : Nat) (a_this_starts : Nat) (a_this_paces : Nat) (a_this_brights : Nat) (a_this_purses : Nat) (a_this_leases : Nat) (v_squares : Int32) (v_stars : Int32) (v_tenants : Int32) (g1 : Int32) (R0 : Int32) (hf : f_X5_hasSquare v_squares g1 = some R0) : Met l yX5_hasSquare wsX5_hasSquare rm_X5_hasSquare (va_Pc [.ref a_this, .int g1] (zR G [(a_this, .inr (5, [.int v_squares, .int v_stars, .ref a_this_starts, .ref a_this_paces, .ref a_this_brights, .int v_tenants, .ref a_this_purses, .ref a_this_leases]))])) (zSv (some (.int R0))) 0 0 (fun _ => False) := by
  refine Met.ofW (cc := cX5_hasSquare) (maxL := 2) (ret := (some .boolean)) (by decide) rfl ?_
  intro p e s m args below meth c s₁ B hml hv
  obtain ⟨hargs, hP, hE⟩ := hv
  have hx := B.exec
  have hb := B.bytes
  have hr := B.returns
  have hts := atoms_spec (ws := wsX5_hasSquare) B.pre
  have hown : s.vm.findClass RX5 = some m.cls := findClass_of_methodNamed B.named
  have hlocks := B.notSynchronized
  have hK := hE.1
  have hC : CallFix p m c cX5_hasSquare 2 s args wsX5_hasSquare RX5 := ⟨hx, hb, hml, hown, hts⟩
  have inX5 : ∀ w ∈ wsX50, w ∈ wsX5_hasSquare := by decide +kernel
  have lk9 := hts (.fieldLink RX5 9 "SkyLeases$Sky" "squares" "I") (by decide +kernel)
  have hl := lv_entry ([.ref a_this, .int g1]) (n := 2) (Nat.le_of_ble_eq_true rfl)
  have hent : entryFrame m args 2 = F0 m 0 ((lg_sl ([.ref a_this, .int g1]) ++ List.replicate (2 - (lg_sl ([.ref a_this, .int g1])).length) Slot.unset).toArray) [] := by rw [hargs]; exact lg_entry_eq m [.ref a_this, .int g1] 2
  refine W.eq hent ?_
  clear hent
  generalize (lg_sl ([.ref a_this, .int g1]) ++ List.replicate (2 - (lg_sl ([.ref a_this, .int g1])).length) Slot.unset).toArray = ls at hl ⊢
  have hl : lv_has ls 2 [(0, .ref a_this), (1, .int g1)] := hl
  generalize hQ : MQ below _ args s 0 0 _ = QQ
  change W p l e rm_X5_hasSquare s m args below meth c s.heap [] 0 0 QQ _
  unfold f_X5_hasSquare at hf
  refine lv_iload_n hx hb dX5_hasSquare_0 rfl (lv_at hl 1 rfl) ?_
  refine lv_if_lt (tgt := 16) hx hb dX5_hasSquare_1 (by decide) (fun hc3 => ?_) (fun hc3 => ?_)
  · have hf := if_t hf hc3
    refine lv_iconst (v := (0 : Int32)) hx hb dX5_hasSquare_16 (by decide) ?_
    have hr0 := so1 hf
    subst hr0
    rw [← hQ]
    exact W.zret (v := (0 : Int32)) hx hb hr rfl (fun t ht hW => ⟨rfl, ht⟩) (fun _ h => by cases h) dX5_hasSquare_17
  · have hf := if_f hf hc3
    refine lv_iload_n hx hb dX5_hasSquare_4 rfl (lv_at hl 1 rfl) ?_
    refine lv_aload_n hx hb dX5_hasSquare_5 rfl (lv_at hl 0 rfl) ?_
    refine va_get (D := G.1) (ci := 5) (v := .int v_squares) (C := RX5) (T := TX5) (N := 8) hx hb hts inX5 hown hK hP 0 rfl rfl 0 (by decide) lk9 (fun _ h9 => h9) rfl dX5_hasSquare_6 ?_
    refine lv_icmp_ge (tgt := 16) hx hb dX5_hasSquare_9 (by decide) (fun hc4 => ?_) (fun hc4 => ?_)
    · have hf := if_t hf hc4
      refine lv_iconst (v := (0 : Int32)) hx hb dX5_hasSquare_16 (by decide) ?_
      have hr0 := so1 hf
      subst hr0
      rw [← hQ]
      exact W.zret (v := (0 : Int32)) hx hb hr rfl (fun t ht hW => ⟨rfl, ht⟩) (fun _ h => by cases h) dX5_hasSquare_17
    · have hf := if_f hf hc4
      refine lv_iconst (v := (1 : Int32)) hx hb dX5_hasSquare_12 (by decide) ?_
      refine lv_goto (tgt := 17) hx hb dX5_hasSquare_13 (by decide) ?_
      have hr0 := so1 hf
      subst hr0
      rw [← hQ]
      exact W.zret (v := (1 : Int32)) hx hb hr rfl (fun t ht hW => ⟨rfl, ht⟩) (fun _ h => by cases h) dX5_hasSquare_17
def f_X5_hasTenant  (v_tenants : Int32) (g1 : Int32) : Option (Int32) := if g1 < (0 : Int32) then (some ((0 : Int32))) else (if v_tenants ≤ g1 then (some ((0 : Int32))) else (some ((1 : Int32))))
abbrev rm_X5_hasTenant : Room := { frames := 0, cells := 0, slots := 0, locals := 0 }
set_option maxHeartbeats 4000000 in
set_option maxRecDepth 100000 in
theorem c_X5_hasTenant (l : Launch) (G : zG) (a_this : Nat) (a_this_starts : Nat) (a_this_paces : Nat) (a_this_brights : Nat) (a_this_purses : Nat) (a_this_leases : Nat) (v_squares : Int32) (v_stars : Int32) (v_tenants : Int32) (g1 : Int32) (R0 : Int32) (hf : f_X5_hasTenant v_tenants g1 = some R0) : Met l yX5_hasTenant wsX5_hasTenant rm_X5_hasTenant (va_Pc [.ref a_this, .int g1] (zR G [(a_this, .inr (5, [.int v_squares, .int v_stars, .ref a_this_starts, .ref a_this_paces, .ref a_this_brights, .int v_tenants, .ref a_this_purses, .ref a_this_leases]))])) (zSv (some (.int R0))) 0 0 (fun _ => False) := by
  refine Met.ofW (cc := cX5_hasTenant) (maxL := 2) (ret := (some .boolean)) (by decide) rfl ?_
  intro p e s m args below meth c s₁ B hml hv
  obtain ⟨hargs, hP, hE⟩ := hv
  have hx := B.exec
  have hb := B.bytes
  have hr := B.returns
  have hts := atoms_spec (ws := wsX5_hasTenant) B.pre
  have hown : s.vm.findClass RX5 = some m.cls := findClass_of_methodNamed B.named
  have hlocks := B.notSynchronized
  have hK := hE.1
  have hC : CallFix p m c cX5_hasTenant 2 s args wsX5_hasTenant RX5 := ⟨hx, hb, hml, hown, hts⟩
  have inX5 : ∀ w ∈ wsX50, w ∈ wsX5_hasTenant := by decide +kernel
  have lk28 := hts (.fieldLink RX5 28 "SkyLeases$Sky" "tenants" "I") (by decide +kernel)
  have hl := lv_entry ([.ref a_this, .int g1]) (n := 2) (Nat.le_of_ble_eq_true rfl)
  have hent : entryFrame m args 2 = F0 m 0 ((lg_sl ([.ref a_this, .int g1]) ++ List.replicate (2 - (lg_sl ([.ref a_this, .int g1])).length) Slot.unset).toArray) [] := by rw [hargs]; exact lg_entry_eq m [.ref a_this, .int g1] 2
  refine W.eq hent ?_
  clear hent
  generalize (lg_sl ([.ref a_this, .int g1]) ++ List.replicate (2 - (lg_sl ([.ref a_this, .int g1])).length) Slot.unset).toArray = ls at hl ⊢
  have hl : lv_has ls 2 [(0, .ref a_this), (1, .int g1)] := hl
  generalize hQ : MQ below _ args s 0 0 _ = QQ
  change W p l e rm_X5_hasTenant s m args below meth c s.heap [] 0 0 QQ _
  unfold f_X5_hasTenant at hf
  refine lv_iload_n hx hb dX5_hasTenant_0 rfl (lv_at hl 1 rfl) ?_
  refine lv_if_lt (tgt := 16) hx hb dX5_hasTenant_1 (by decide) (fun hc3 => ?_) (fun hc3 => ?_)
  · have hf := if_t hf hc3
    refine lv_iconst (v := (0 : Int32)) hx hb dX5_hasTenant_16 (by decide) ?_
    have hr0 := so1 hf
    subst hr0
    rw [← hQ]
    exact W.zret (v := (0 : Int32)) hx hb hr rfl (fun t ht hW => ⟨rfl, ht⟩) (fun _ h => by cases h) dX5_hasTenant_17
  · have hf := if_f hf hc3
    refine lv_iload_n hx hb dX5_hasTenant_4 rfl (lv_at hl 1 rfl) ?_
    refine lv_aload_n hx hb dX5_hasTenant_5 rfl (lv_at hl 0 rfl) ?_
    refine va_get (D := G.1) (ci := 5) (v := .int v_tenants) (C := RX5) (T := TX5) (N := 8) hx hb hts inX5 hown hK hP 0 rfl rfl 5 (by decide) lk28 (fun _ h9 => h9) rfl dX5_hasTenant_6 ?_
    refine lv_icmp_ge (tgt := 16) hx hb dX5_hasTenant_9 (by decide) (fun hc4 => ?_) (fun hc4 => ?_)
    · have hf := if_t hf hc4
      refine lv_iconst (v := (0 : Int32)) hx hb dX5_hasTenant_16 (by decide) ?_
      have hr0 := so1 hf
      subst hr0
      rw [← hQ]
      exact W.zret (v := (0 : Int32)) hx hb hr rfl (fun t ht hW => ⟨rfl, ht⟩) (fun _ h => by cases h) dX5_hasTenant_17
    · have hf := if_f hf hc4
      refine lv_iconst (v := (1 : Int32)) hx hb dX5_hasTenant_12 (by decide) ?_
      refine lv_goto (tgt := 17) hx hb dX5_hasTenant_13 (by decide) ?_
      have hr0 := so1 hf
      subst hr0
      rw [← hQ]
      exact W.zret (v := (1 : Int32)) hx hb hr rfl (fun t ht hW => ⟨rfl, ht⟩) (fun _ h => by cases h) dX5_hasTenant_17
def f_X5_squaresWithStars_b4 (v_squares : Int32) (v_stars : Int32) (v_paces : (Nat → Int32)) (v_starts : (Nat → Int32))  (x1 : Int32) : Nat → Int32 → Int32 → Option (Int32)
  | 0, _, _ => none
  | n4 + 1, x2, x3 => if v_stars ≤ x3 then (some (x2)) else (bd1 (f_X5_squareOf (v_squares) (v_stars) (v_paces) (v_starts) (x3) (x1)) fun r5 => nm ((x2 ||| ((1 : Int32) <<< (r5 &&& (31 : Int32))))) fun y6 => f_X5_squaresWithStars_b4 v_squares v_stars v_paces v_starts x1 n4 (y6) ((x3 + (1 : Int32))))
def f_X5_squaresWithStars  (v_squares : Int32) (v_stars : Int32) (v_paces : (Nat → Int32)) (v_starts : (Nat → Int32)) (g1 : Int32) : Option (Int32) := f_X5_squaresWithStars_b4 v_squares v_stars v_paces v_starts (g1) zF ((0 : Int32)) ((0 : Int32))
abbrev rm_X5_squaresWithStars : Room := { frames := 2, cells := 0, slots := 0, locals := 44 }
set_option maxHeartbeats 4000000 in
set_option maxRecDepth 100000 in
theorem c_X5_squaresWithStars (l : Launch) (G : zG) (a_this : Nat) (a_this_paces : Nat) (a_this_starts : Nat) (a_this_brights : Nat) (a_this_purses : Nat) (a_this_leases : Nat) (v_squares : Int32) (v_stars : Int32) (v_tenants : Int32) (v_paces : (Nat → Int32)) (v_starts : (Nat → Int32)) (g1 : Int32) (R0 : Int32) (hf : f_X5_squaresWithStars v_squares v_stars v_paces v_starts g1 = some R0) : Met l yX5_squaresWithStars wsX5_squaresWithStars rm_X5_squaresWithStars (va_Pc [.ref a_this, .int g1] (zR G [(a_this, .inr (5, [.int v_squares, .int v_stars, .ref a_this_starts, .ref a_this_paces, .ref a_this_brights, .int v_tenants, .ref a_this_purses, .ref a_this_leases])), (a_this_paces, .inl (G.2.1, 8, .inl v_paces)), (a_this_starts, .inl (G.2.1, 8, .inl v_starts))])) (zSv (some (.int R0))) 0 0 (fun _ => False) := by
  refine Met.ofW (cc := cX5_squaresWithStars) (maxL := 4) (ret := (some .int)) (by decide) rfl ?_
  intro p e s m args below meth c s₁ B hml hv
  obtain ⟨hargs, hP, hE⟩ := hv
  have hx := B.exec
  have hb := B.bytes
  have hr := B.returns
  have hts := atoms_spec (ws := wsX5_squaresWithStars) B.pre
  have hown : s.vm.findClass RX5 = some m.cls := findClass_of_methodNamed B.named
  have hlocks := B.notSynchronized
  have hK := hE.1
  have hC : CallFix p m c cX5_squaresWithStars 4 s args wsX5_squaresWithStars RX5 := ⟨hx, hb, hml, hown, hts⟩
  have inX5 : ∀ w ∈ wsX50, w ∈ wsX5_squaresWithStars := by decide +kernel
  have lk15 := hts (.fieldLink RX5 15 "SkyLeases$Sky" "stars" "I") (by decide +kernel)
  have hl := lv_entry ([.ref a_this, .int g1]) (n := 4) (Nat.le_of_ble_eq_true rfl)
  have hent : entryFrame m args 4 = F0 m 0 ((lg_sl ([.ref a_this, .int g1]) ++ List.replicate (4 - (lg_sl ([.ref a_this, .int g1])).length) Slot.unset).toArray) [] := by rw [hargs]; exact lg_entry_eq m [.ref a_this, .int g1] 4
  refine W.eq hent ?_
  clear hent
  generalize (lg_sl ([.ref a_this, .int g1]) ++ List.replicate (4 - (lg_sl ([.ref a_this, .int g1])).length) Slot.unset).toArray = ls at hl ⊢
  have hl : lv_has ls 4 [(0, .ref a_this), (1, .int g1)] := hl
  generalize hQ : MQ below _ args s 0 0 _ = QQ
  change W p l e rm_X5_squaresWithStars s m args below meth c s.heap [] 0 0 QQ _
  have j4 : ∀ (x1 : Int32), ∀ (nn : Nat), ∀ (x2 : Int32), ∀ (x3 : Int32), ∀ (ls : Array Slot), lv_has ls 4 [(0, .ref a_this), (1, .int x1), (2, .int x2), (3, .int x3)] → f_X5_squaresWithStars_b4 v_squares v_stars v_paces v_starts x1 nn x2 x3 = some R0 → W p l e rm_X5_squaresWithStars s m args below meth c s.heap [] 0 0 QQ (F0 m 4 ls []) := by
    intro x1
    intro nn
    induction nn with
    | zero =>
      intro x2 x3 ls hl hf
      rw [f_X5_squaresWithStars_b4] at hf
      cases hf
    | succ n4 ih =>
      intro x2 x3 ls hl hf
      rw [f_X5_squaresWithStars_b4] at hf
      refine lv_iload_n hx hb dX5_squaresWithStars_4 rfl (lv_at hl 3 rfl) ?_
      refine lv_aload_n hx hb dX5_squaresWithStars_5 rfl (lv_at hl 0 rfl) ?_
      refine va_get (D := G.1) (ci := 5) (v := .int v_stars) (C := RX5) (T := TX5) (N := 8) hx hb hts inX5 hown hK hP 0 rfl rfl 1 (by decide) lk15 (fun _ h9 => h9) rfl dX5_squaresWithStars_6 ?_
      refine lv_icmp_ge (tgt := 29) hx hb dX5_squaresWithStars_9 (by decide) (fun hc4 => ?_) (fun hc4 => ?_)
      · have hf := if_t hf hc4
        refine lv_iload_n hx hb dX5_squaresWithStars_29 rfl (lv_at hl 2 rfl) ?_
        have hr0 := so1 hf
        subst hr0
        rw [← hQ]
        exact W.iret (v := x2) hx hb hr (fun t ht hW => ⟨rfl, ht⟩) (fun _ h => by cases h) dX5_squaresWithStars_30
      · have hf := if_f hf hc4
        refine lv_iload_n hx hb dX5_squaresWithStars_12 rfl (lv_at hl 2 rfl) ?_
        refine lv_iconst (v := (1 : Int32)) hx hb dX5_squaresWithStars_13 (by decide) ?_
        refine lv_aload_n hx hb dX5_squaresWithStars_14 rfl (lv_at hl 0 rfl) ?_
        refine lv_iload_n hx hb dX5_squaresWithStars_15 rfl (lv_at hl 3 rfl) ?_
        refine lv_iload_n hx hb dX5_squaresWithStars_16 rfl (lv_at hl 1 rfl) ?_
        obtain ⟨r5, hu, hf⟩ := bd1_some hf
        refine zRi (va_runV (As := [.int x3, .int x1]) (rest := [.int (1 : Int32), .int x2]) hC (c_X5_squareOf l G a_this a_this_paces a_this_starts a_this_brights a_this_purses a_this_leases (v_squares) (v_stars) (v_tenants) (v_paces) (v_starts) (x3) (x1) r5 hu) (cwV 2 hts gX5_squaresWithStars_X5_squareOf rfl rfl rfl hd_X5_squareOf ⟨(Nat.le_of_ble_eq_true rfl), (Nat.le_of_ble_eq_true rfl)⟩) (zPV hE hP [0, 1, 2] rfl 0 rfl rfl) rfl rfl hl.1 rfl (lv_room (Nat.le_of_ble_eq_true rfl)) dX5_squaresWithStars_17 ⟨Nat.zero_le _, Nat.zero_le _⟩) ?_
        refine lv_ishl hx hb dX5_squaresWithStars_20 ?_
        refine lv_ior hx hb dX5_squaresWithStars_21 ?_
        refine lv_topi (fun y6 ey6 => ?_)
        have hf := nm_to hf ey6
        refine lv_istore_n (lv' := [(2, .int y6), (0, .ref a_this), (1, .int x1), (3, .int x3)]) hx hb dX5_squaresWithStars_22 rfl hl (by decide) rfl (fun ls hl => ?_)
        refine lv_iinc (v := (x3 + (1 : Int32))) (lv' := [(3, .int (x3 + (1 : Int32))), (2, .int y6), (0, .ref a_this), (1, .int x1)]) hx hb dX5_squaresWithStars_23 hl (k := 3) rfl rfl (by decide) rfl (fun ls hl => ?_)
        refine lv_goto (tgt := 4) hx hb dX5_squaresWithStars_26 (by decide) ?_
        exact ih (y6) ((x3 + (1 : Int32))) ls (lv_sub hl [2, 3, 1, 0] rfl) hf
  unfold f_X5_squaresWithStars at hf
  refine lv_iconst (v := (0 : Int32)) hx hb dX5_squaresWithStars_0 (by decide) ?_
  refine lv_istore_n (lv' := [(2, .int (0 : Int32)), (0, .ref a_this), (1, .int g1)]) hx hb dX5_squaresWithStars_1 rfl hl (by decide) rfl (fun ls hl => ?_)
  refine lv_iconst (v := (0 : Int32)) hx hb dX5_squaresWithStars_2 (by decide) ?_
  refine lv_istore_n (lv' := [(3, .int (0 : Int32)), (2, .int (0 : Int32)), (0, .ref a_this), (1, .int g1)]) hx hb dX5_squaresWithStars_3 rfl hl (by decide) rfl (fun ls hl => ?_)
  exact j4 (g1) zF ((0 : Int32)) ((0 : Int32)) ls (lv_sub hl [2, 3, 1, 0] rfl) hf
theorem hd_X8_greatestCommon : yX8_greatestCommon.cls = RX8 ∧ yX8_greatestCommon.cls ≠ "java/lang/invoke/MethodHandle" ∧ yX8_greatestCommon.cls ≠ "java/lang/invoke/VarHandle" ∧ (parseMethodDescriptor yX8_greatestCommon.desc).map (fun d => d.parameters.length) = some 2 := by decide +kernel
def f_X5_nightsToRepeat_b47  (k4 : Int32 → Int32 → Option (Int32))  (x1 : Int32) (x2 : Int32) : Option (Int32) := k4 (x1) ((x2 + (1 : Int32)))
def f_X5_nightsToRepeat_b4 (v_squares : Int32) (v_stars : Int32) (v_paces : (Nat → Int32))   : Nat → Int32 → Int32 → Option (Int32)
  | 0, _, _ => none
  | n4 + 1, x1, x2 => if v_stars ≤ x2 then (some (x1)) else (gd (inB x2 8) (nm (((v_paces (x2).toNatClampNeg) * v_squares)) fun y10 => bd1 (f_X8_greatestCommon (x1) (y10)) fun r11 => if y10 ≤ (0 : Int32) then (f_X5_nightsToRepeat_b47 (f_X5_nightsToRepeat_b4 v_squares v_stars v_paces n4) (x1) (x2)) else (if r11 ≤ (0 : Int32) then (f_X5_nightsToRepeat_b47 (f_X5_nightsToRepeat_b4 v_squares v_stars v_paces n4) (x1) (x2)) else (gd (nzB r11) (f_X5_nightsToRepeat_b47 (f_X5_nightsToRepeat_b4 v_squares v_stars v_paces n4) (((x1 / r11) * y10)) (x2))))))
def f_X5_nightsToRepeat  (v_squares : Int32) (v_stars : Int32) (v_paces : (Nat → Int32))  : Option (Int32) := f_X5_nightsToRepeat_b4 v_squares v_stars v_paces zF ((1 : Int32)) ((0 : Int32))
abbrev rm_X5_nightsToRepeat : Room := { frames := 1, cells := 0, slots := 0, locals := 25 }
set_option maxHeartbeats 4000000 in
set_option maxRecDepth 100000 in
theorem c_X5_nightsToRepeat (l : Launch) (G : zG) (a_this : Nat) (a_this_paces : Nat) (a_this_starts : Nat) (a_this_brights : Nat) (a_this_purses : Nat) (a_this_leases : Nat) (v_squares : Int32) (v_stars : Int32) (v_tenants : Int32) (v_paces : (Nat → Int32)) (R0 : Int32) (hf : f_X5_nightsToRepeat v_squares v_stars v_paces = some R0) : Met l yX5_nightsToRepeat wsX5_nightsToRepeat rm_X5_nightsToRepeat (va_Pc [.ref a_this] (zR G [(a_this, .inr (5, [.int v_squares, .int v_stars, .ref a_this_starts, .ref a_this_paces, .ref a_this_brights, .int v_tenants, .ref a_this_purses, .ref a_this_leases])), (a_this_paces, .inl (G.2.1, 8, .inl v_paces))])) (zSv (some (.int R0))) 0 0 (fun _ => False) := by
  refine Met.ofW (cc := cX5_nightsToRepeat) (maxL := 5) (ret := (some .int)) (by decide) rfl ?_
  intro p e s m args below meth c s₁ B hml hv
  obtain ⟨hargs, hP, hE⟩ := hv
  have hx := B.exec
  have hb := B.bytes
  have hr := B.returns
  have hts := atoms_spec (ws := wsX5_nightsToRepeat) B.pre
  have hown : s.vm.findClass RX5 = some m.cls := findClass_of_methodNamed B.named
  have hlocks := B.notSynchronized
  have hK := hE.1
  have hC : CallFix p m c cX5_nightsToRepeat 5 s args wsX5_nightsToRepeat RX5 := ⟨hx, hb, hml, hown, hts⟩
  have inX5 : ∀ w ∈ wsX50, w ∈ wsX5_nightsToRepeat := by decide +kernel
  have lk9 := hts (.fieldLink RX5 9 "SkyLeases$Sky" "squares" "I") (by decide +kernel)
  have lk15 := hts (.fieldLink RX5 15 "SkyLeases$Sky" "stars" "I") (by decide +kernel)
  have lk22 := hts (.fieldLink RX5 22 "SkyLeases$Sky" "paces" "[I") (by decide +kernel)
  have hl := lv_entry ([.ref a_this]) (n := 5) (Nat.le_of_ble_eq_true rfl)
  have hent : entryFrame m args 5 = F0 m 0 ((lg_sl ([.ref a_this]) ++ List.replicate (5 - (lg_sl ([.ref a_this])).length) Slot.unset).toArray) [] := by rw [hargs]; exact lg_entry_eq m [.ref a_this] 5
  refine W.eq hent ?_
  clear hent
  generalize (lg_sl ([.ref a_this]) ++ List.replicate (5 - (lg_sl ([.ref a_this])).length) Slot.unset).toArray = ls at hl ⊢
  have hl : lv_has ls 5 [(0, .ref a_this)] := hl
  generalize hQ : MQ below _ args s 0 0 _ = QQ
  change W p l e rm_X5_nightsToRepeat s m args below meth c s.heap [] 0 0 QQ _
  have j47 : ∀ (k4 : Int32 → Int32 → Option (Int32)), (∀ (x1 : Int32), ∀ (x2 : Int32), ∀ (ls : Array Slot), lv_has ls 5 [(0, .ref a_this), (1, .int x1), (2, .int x2)] → k4 x1 x2 = some R0 → W p l e rm_X5_nightsToRepeat s m args below meth c s.heap [] 0 0 QQ (F0 m 4 ls [])) → ∀ (x1 : Int32), ∀ (x2 : Int32), ∀ (ls : Array Slot), lv_has ls 5 [(0, .ref a_this), (1, .int x1), (2, .int x2)] → f_X5_nightsToRepeat_b47 k4 x1 x2 = some R0 → W p l e rm_X5_nightsToRepeat s m args below meth c s.heap [] 0 0 QQ (F0 m 47 ls []) := by
    intro k4 hk4 x1 x2 ls hl hf
    unfold f_X5_nightsToRepeat_b47 at hf
    refine lv_iinc (v := (x2 + (1 : Int32))) (lv' := [(2, .int (x2 + (1 : Int32))), (0, .ref a_this), (1, .int x1)]) hx hb dX5_nightsToRepeat_47 hl (k := 2) rfl rfl (by decide) rfl (fun ls hl => ?_)
    refine lv_goto (tgt := 4) hx hb dX5_nightsToRepeat_50 (by decide) ?_
    exact hk4 (x1) ((x2 + (1 : Int32))) ls (lv_sub hl [1, 2, 0] rfl) hf
  have j4 : ∀ (nn : Nat), ∀ (x1 : Int32), ∀ (x2 : Int32), ∀ (ls : Array Slot), lv_has ls 5 [(0, .ref a_this), (1, .int x1), (2, .int x2)] → f_X5_nightsToRepeat_b4 v_squares v_stars v_paces nn x1 x2 = some R0 → W p l e rm_X5_nightsToRepeat s m args below meth c s.heap [] 0 0 QQ (F0 m 4 ls []) := by
    intro nn
    induction nn with
    | zero =>
      intro x1 x2 ls hl hf
      rw [f_X5_nightsToRepeat_b4] at hf
      cases hf
    | succ n4 ih =>
      intro x1 x2 ls hl hf
      rw [f_X5_nightsToRepeat_b4] at hf
      refine lv_iload_n hx hb dX5_nightsToRepeat_4 rfl (lv_at hl 2 rfl) ?_
      refine lv_aload_n hx hb dX5_nightsToRepeat_5 rfl (lv_at hl 0 rfl) ?_
      refine va_get (D := G.1) (ci := 5) (v := .int v_stars) (C := RX5) (T := TX5) (N := 8) hx hb hts inX5 hown hK hP 0 rfl rfl 1 (by decide) lk15 (fun _ h9 => h9) rfl dX5_nightsToRepeat_6 ?_
      refine lv_icmp_ge (tgt := 53) hx hb dX5_nightsToRepeat_9 (by decide) (fun hc8 => ?_) (fun hc8 => ?_)
      · have hf := if_t hf hc8
        refine lv_iload_n hx hb dX5_nightsToRepeat_53 rfl (lv_at hl 1 rfl) ?_
        have hr0 := so1 hf
        subst hr0
        rw [← hQ]
        exact W.iret (v := x1) hx hb hr (fun t ht hW => ⟨rfl, ht⟩) (fun _ h => by cases h) dX5_nightsToRepeat_54
      · have hf := if_f hf hc8
        refine lv_aload_n hx hb dX5_nightsToRepeat_12 rfl (lv_at hl 0 rfl) ?_
        refine va_get (D := G.1) (ci := 5) (v := .ref a_this_paces) (C := RX5) (T := TX5) (N := 8) hx hb hts inX5 hown hK hP 0 rfl rfl 3 (by decide) lk22 (fun _ h9 => h9) rfl dX5_nightsToRepeat_13 ?_
        refine lv_iload_n hx hb dX5_nightsToRepeat_16 rfl (lv_at hl 2 rfl) ?_
        obtain ⟨hg9, hf⟩ := gd_some hf
        refine va_iald hx hb hK hP 1 0 rfl rfl (inB_in hg9) dX5_nightsToRepeat_17 ?_
        refine lv_aload_n hx hb dX5_nightsToRepeat_18 rfl (lv_at hl 0 rfl) ?_
        refine va_get (D := G.1) (ci := 5) (v := .int v_squares) (C := RX5) (T := TX5) (N := 8) hx hb hts inX5 hown hK hP 0 rfl rfl 0 (by decide) lk9 (fun _ h9 => h9) rfl dX5_nightsToRepeat_19 ?_
        refine lv_imul hx hb dX5_nightsToRepeat_22 ?_
        refine lv_topi (fun y10 ey10 => ?_)
        have hf := nm_to hf ey10
        refine lv_istore_n (lv' := [(3, .int y10), (0, .ref a_this), (1, .int x1), (2, .int x2)]) hx hb dX5_nightsToRepeat_23 rfl hl (by decide) rfl (fun ls hl => ?_)
        refine lv_iload_n hx hb dX5_nightsToRepeat_24 rfl (lv_at hl 2 rfl) ?_
        refine lv_iload_n hx hb dX5_nightsToRepeat_25 rfl (lv_at hl 0 rfl) ?_
        obtain ⟨r11, hu, hf⟩ := bd1_some hf
        refine zRi (va_runSN (As := [.int x1, .int y10]) (rest := []) hC (c_X8_greatestCommon l G (x1) (y10) r11 hu) ⟨va_cnB 2 hts gX5_nightsToRepeat_X8_greatestCommon_n64 rfl rfl rfl (hE.2 (RX5, 64, yX8_greatestCommon, RX8) (List.mem_of_getElem? (i := 9) rfl)) (hts (.initialized RX8) (by decide +kernel)) hd_X8_greatestCommon.2 ⟨(Nat.le_of_ble_eq_true rfl), (Nat.le_of_ble_eq_true rfl)⟩, hts (.static yX8_greatestCommon) (by decide +kernel), trivial⟩ (zPS hE hP [] rfl) rfl rfl hl.1 rfl (lv_room (Nat.le_of_ble_eq_true rfl)) dX5_nightsToRepeat_26 ⟨Nat.zero_le _, Nat.zero_le _⟩) ?_
        refine lv_istore (lv' := [(4, .int r11), (3, .int y10), (0, .ref a_this), (1, .int x1), (2, .int x2)]) hx hb dX5_nightsToRepeat_29 hl (by decide) rfl (fun ls hl => ?_)
        refine lv_iload_n hx hb dX5_nightsToRepeat_31 rfl (lv_at hl 1 rfl) ?_
        refine lv_if_le (tgt := 47) hx hb dX5_nightsToRepeat_32 (by decide) (fun hc12 => ?_) (fun hc12 => ?_)
        · have hf := if_t hf hc12
          exact j47 (f_X5_nightsToRepeat_b4 v_squares v_stars v_paces n4) ih (x1) (x2) ls (lv_sub hl [2, 3, 4] rfl) hf
        · have hf := if_f hf hc12
          refine lv_iload hx hb dX5_nightsToRepeat_35 (lv_at hl 0 rfl) ?_
          refine lv_if_le (tgt := 47) hx hb dX5_nightsToRepeat_37 (by decide) (fun hc13 => ?_) (fun hc13 => ?_)
          · have hf := if_t hf hc13
            exact j47 (f_X5_nightsToRepeat_b4 v_squares v_stars v_paces n4) ih (x1) (x2) ls (lv_sub hl [2, 3, 4] rfl) hf
          · have hf := if_f hf hc13
            refine lv_iload_n hx hb dX5_nightsToRepeat_40 rfl (lv_at hl 3 rfl) ?_
            refine lv_iload hx hb dX5_nightsToRepeat_41 (lv_at hl 0 rfl) ?_
            obtain ⟨hg14, hf⟩ := gd_some hf
            refine lv_idiv hx hb dX5_nightsToRepeat_43 (nzB_ne hg14) ?_
            refine lv_iload_n hx hb dX5_nightsToRepeat_44 rfl (lv_at hl 1 rfl) ?_
            refine lv_imul hx hb dX5_nightsToRepeat_45 ?_
            refine lv_istore_n (lv' := [(1, .int ((x1 / r11) * y10)), (4, .int r11), (3, .int y10), (0, .ref a_this), (2, .int x2)]) hx hb dX5_nightsToRepeat_46 rfl hl (by decide) rfl (fun ls hl => ?_)
            exact j47 (f_X5_nightsToRepeat_b4 v_squares v_stars v_paces n4) ih (((x1 / r11) * y10)) (x2) ls (lv_sub hl [3, 0, 4] rfl) hf
  unfold f_X5_nightsToRepeat at hf
  refine lv_iconst (v := (1 : Int32)) hx hb dX5_nightsToRepeat_0 (by decide) ?_
  refine lv_istore_n (lv' := [(1, .int (1 : Int32)), (0, .ref a_this)]) hx hb dX5_nightsToRepeat_1 rfl hl (by decide) rfl (fun ls hl => ?_)
  refine lv_iconst (v := (0 : Int32)) hx hb dX5_nightsToRepeat_2 (by decide) ?_
  refine lv_istore_n (lv' := [(2, .int (0 : Int32)), (1, .int (1 : Int32)), (0, .ref a_this)]) hx hb dX5_nightsToRepeat_3 rfl hl (by decide) rfl (fun ls hl => ?_)
  exact j4 zF ((1 : Int32)) ((0 : Int32)) ls (lv_sub hl [2, 1, 0] rfl) hf
def f_X0_startWith  (v_night : Int32) (v_p1_purses : (Nat → Int32)) (v_purses : (Nat → Int32)) (v_leases_size : Int32) (v_p1_leases_size : Int32) (v_leases_parts : (Nat → Int32)) (v_p1_leases_parts : (Nat → Int32)) (v_past_rows_size : Int32)  : Option (Int32 × (Nat → Int32) × Int32 × (Nat → Int32) × Int32) := gd (cpB (0 : Int32) (0 : Int32) (4 : Int32) 4 4) (nm (va_cpy v_p1_purses v_purses ((0 : Int32)).toNatClampNeg ((0 : Int32)).toNatClampNeg ((4 : Int32)).toNatClampNeg) fun y6 => bd2 (f_X6_become (v_leases_size) (v_p1_leases_size) (v_leases_parts) (v_p1_leases_parts)) fun w7 w8 => some ((0 : Int32), y6, w7, w8, (0 : Int32)))
abbrev rm_X0_startWith : Room := { frames := 2, cells := 0, slots := 0, locals := 53 }
set_option maxHeartbeats 4000000 in
set_option maxRecDepth 100000 in
theorem c_X0_startWith (l : Launch) (G : zG) (sz : Nat) (a_this : Nat) (a_p1 : Nat) (a_p1_purses : Nat) (a_this_purses : Nat) (a_this_leases : Nat) (a_p1_leases : Nat) (a_this_leases_parts : Nat) (a_p1_leases_parts : Nat) (a_this_past : Nat) (a_this_past_rows : Nat) (a_p1_starts : Nat) (a_p1_paces : Nat) (a_p1_brights : Nat) (a_this_past_places : Nat) (a_this_past_rows_parts : Nat) (v_night : Int32) (v_lot : Int32) (v_p1_squares : Int32) (v_p1_stars : Int32) (v_p1_tenants : Int32) (v_p1_purses : (Nat → Int32)) (v_purses : (Nat → Int32)) (v_leases_most : Int32) (v_leases_size : Int32) (v_p1_leases_most : Int32) (v_p1_leases_size : Int32) (v_leases_parts : (Nat → Int32)) (v_p1_leases_parts : (Nat → Int32)) (v_past_rows_most : Int32) (v_past_rows_size : Int32) (R1 : Int32) (R2 : (Nat → Int32)) (R3 : Int32) (R4 : (Nat → Int32)) (R5 : Int32) (hf : f_X0_startWith v_night v_p1_purses v_purses v_leases_size v_p1_leases_size v_leases_parts v_p1_leases_parts v_past_rows_size = some (R1, R2, R3, R4, R5)) : Met l yX0_startWith wsX0_startWith rm_X0_startWith (va_Pc [.ref a_this, .ref a_p1] (zB G [(a_this, .inr (0, [.int v_night, .int v_lot, .ref a_this_purses, .ref a_this_leases, .ref a_this_past])), (a_p1, .inr (5, [.int v_p1_squares, .int v_p1_stars, .ref a_p1_starts, .ref a_p1_paces, .ref a_p1_brights, .int v_p1_tenants, .ref a_p1_purses, .ref a_p1_leases])), (a_p1_purses, .inl (G.2.1, 4, .inl v_p1_purses)), (a_this_purses, .inl (G.2.1, 4, .inl v_purses)), (a_this_leases, .inr (6, [.int v_leases_most, .ref a_this_leases_parts, .int v_leases_size])), (a_p1_leases, .inr (6, [.int v_p1_leases_most, .ref a_p1_leases_parts, .int v_p1_leases_size])), (a_this_leases_parts, .inl (G.2.1, 50, .inl v_leases_parts)), (a_p1_leases_parts, .inl (G.2.1, 50, .inl v_p1_leases_parts)), (a_this_past, .inr (2, [.ref a_this_past_rows, .ref a_this_past_places])), (a_this_past_rows, .inr (6, [.int v_past_rows_most, .ref a_this_past_rows_parts, .int v_past_rows_size]))] sz)) (zQ G none [(a_this, .inr (0, [.int R1, .int v_lot, .ref a_this_purses, .ref a_this_leases, .ref a_this_past])), (a_p1, .inr (5, [.int v_p1_squares, .int v_p1_stars, .ref a_p1_starts, .ref a_p1_paces, .ref a_p1_brights, .int v_p1_tenants, .ref a_p1_purses, .ref a_p1_leases])), (a_p1_purses, .inl (G.2.1, 4, .inl v_p1_purses)), (a_this_purses, .inl (G.2.1, 4, .inl R2)), (a_this_leases, .inr (6, [.int v_leases_most, .ref a_this_leases_parts, .int R3])), (a_p1_leases, .inr (6, [.int v_p1_leases_most, .ref a_p1_leases_parts, .int v_p1_leases_size])), (a_this_leases_parts, .inl (G.2.1, 50, .inl R4)), (a_p1_leases_parts, .inl (G.2.1, 50, .inl v_p1_leases_parts)), (a_this_past, .inr (2, [.ref a_this_past_rows, .ref a_this_past_places])), (a_this_past_rows, .inr (6, [.int v_past_rows_most, .ref a_this_past_rows_parts, .int R5]))] (va_A [(a_this, .inr (0, [.int v_night, .int v_lot, .ref a_this_purses, .ref a_this_leases, .ref a_this_past])), (a_p1, .inr (5, [.int v_p1_squares, .int v_p1_stars, .ref a_p1_starts, .ref a_p1_paces, .ref a_p1_brights, .int v_p1_tenants, .ref a_p1_purses, .ref a_p1_leases])), (a_p1_purses, .inl (G.2.1, 4, .inl v_p1_purses)), (a_this_purses, .inl (G.2.1, 4, .inl v_purses)), (a_this_leases, .inr (6, [.int v_leases_most, .ref a_this_leases_parts, .int v_leases_size])), (a_p1_leases, .inr (6, [.int v_p1_leases_most, .ref a_p1_leases_parts, .int v_p1_leases_size])), (a_this_leases_parts, .inl (G.2.1, 50, .inl v_leases_parts)), (a_p1_leases_parts, .inl (G.2.1, 50, .inl v_p1_leases_parts)), (a_this_past, .inr (2, [.ref a_this_past_rows, .ref a_this_past_places])), (a_this_past_rows, .inr (6, [.int v_past_rows_most, .ref a_this_past_rows_parts, .int v_past_rows_size]))] sz)) 0 0 (va_A [(a_this, .inr (0, [.int v_night, .int v_lot, .ref a_this_purses, .ref a_this_leases, .ref a_this_past])), (a_p1, .inr (5, [.int v_p1_squares, .int v_p1_stars, .ref a_p1_starts, .ref a_p1_paces, .ref a_p1_brights, .int v_p1_tenants, .ref a_p1_purses, .ref a_p1_leases])), (a_p1_purses, .inl (G.2.1, 4, .inl v_p1_purses)), (a_this_purses, .inl (G.2.1, 4, .inl v_purses)), (a_this_leases, .inr (6, [.int v_leases_most, .ref a_this_leases_parts, .int v_leases_size])), (a_p1_leases, .inr (6, [.int v_p1_leases_most, .ref a_p1_leases_parts, .int v_p1_leases_size])), (a_this_leases_parts, .inl (G.2.1, 50, .inl v_leases_parts)), (a_p1_leases_parts, .inl (G.2.1, 50, .inl v_p1_leases_parts)), (a_this_past, .inr (2, [.ref a_this_past_rows, .ref a_this_past_places])), (a_this_past_rows, .inr (6, [.int v_past_rows_most, .ref a_this_past_rows_parts, .int v_past_rows_size]))] sz) := by
  refine Met.ofW (cc := cX0_startWith) (maxL := 2) (ret := none) (by decide) rfl ?_
  intro p e s m args below meth c s₁ B hml hv
  obtain ⟨hargs, hsz, hP, hD0, hE⟩ := hv
  have hx := B.exec
  have hb := B.bytes
  have hr := B.returns
  have hts := atoms_spec (ws := wsX0_startWith) B.pre
  have hown : s.vm.findClass RX0 = some m.cls := findClass_of_methodNamed B.named
  have hlocks := B.notSynchronized
  have hK := hE.1
  have hC : CallFix p m c cX0_startWith 2 s args wsX0_startWith RX0 := ⟨hx, hb, hml, hown, hts⟩
  have inX0 : ∀ w ∈ wsX00, w ∈ wsX0_startWith := by decide +kernel
  have inX2 : ∀ w ∈ wsX20, w ∈ wsX0_startWith := by decide +kernel
  have inX5 : ∀ w ∈ wsX50, w ∈ wsX0_startWith := by decide +kernel
  have inX6 : ∀ w ∈ wsX60, w ∈ wsX0_startWith := by decide +kernel
  have lk9 := hts (.fieldLink RX0 9 "SkyLeases$Now" "night" "I") (by decide +kernel)
  have lk18 := hts (.fieldLink RX0 18 "SkyLeases$Now" "purses" "[I") (by decide +kernel)
  have lk27 := hts (.fieldLink RX0 27 "SkyLeases$Now" "leases" "LSkyLeases$Terms;") (by decide +kernel)
  have lk34 := hts (.fieldLink RX0 34 "SkyLeases$Now" "past" "LSkyLeases$Past;") (by decide +kernel)
  have lk38 := hts (.fieldLink RX0 38 "SkyLeases$Sky" "purses" "[I") (by decide +kernel)
  have lk47 := hts (.fieldLink RX0 47 "SkyLeases$Sky" "leases" "LSkyLeases$Terms;") (by decide +kernel)
  have lk52 := hts (.fieldLink RX0 52 "SkyLeases$Past" "rows" "LSkyLeases$Terms;") (by decide +kernel)
  have lk55 := hts (.fieldLink RX0 55 "SkyLeases$Terms" "size" "I") (by decide +kernel)
  subst hsz
  have hD := hD0.self (sz := s.heap.size)
  generalize hAe : va_A [(a_this, .inr (0, [.int v_night, .int v_lot, .ref a_this_purses, .ref a_this_leases, .ref a_this_past])), (a_p1, .inr (5, [.int v_p1_squares, .int v_p1_stars, .ref a_p1_starts, .ref a_p1_paces, .ref a_p1_brights, .int v_p1_tenants, .ref a_p1_purses, .ref a_p1_leases])), (a_p1_purses, .inl (G.2.1, 4, .inl v_p1_purses)), (a_this_purses, .inl (G.2.1, 4, .inl v_purses)), (a_this_leases, .inr (6, [.int v_leases_most, .ref a_this_leases_parts, .int v_leases_size])), (a_p1_leases, .inr (6, [.int v_p1_leases_most, .ref a_p1_leases_parts, .int v_p1_leases_size])), (a_this_leases_parts, .inl (G.2.1, 50, .inl v_leases_parts)), (a_p1_leases_parts, .inl (G.2.1, 50, .inl v_p1_leases_parts)), (a_this_past, .inr (2, [.ref a_this_past_rows, .ref a_this_past_places])), (a_this_past_rows, .inr (6, [.int v_past_rows_most, .ref a_this_past_rows_parts, .int v_past_rows_size]))] s.heap.size = A at hD ⊢
  have hA : ∀ q : Nat, s.heap.size ≤ q → A q := fun q h => by rw [← hAe]; exact Or.inr h
  have hS : va_S A s.heap s.heap [] := va_S.rf
  have hP : va_P G.1 vwCl [(a_this, .inr (0, [.int v_night, .int v_lot, .ref a_this_purses, .ref a_this_leases, .ref a_this_past])), (a_p1, .inr (5, [.int v_p1_squares, .int v_p1_stars, .ref a_p1_starts, .ref a_p1_paces, .ref a_p1_brights, .int v_p1_tenants, .ref a_p1_purses, .ref a_p1_leases])), (a_p1_purses, .inl (G.2.1, 4, .inl v_p1_purses)), (a_this_purses, .inl (G.2.1, 4, .inl v_purses)), (a_this_leases, .inr (6, [.int v_leases_most, .ref a_this_leases_parts, .int v_leases_size])), (a_p1_leases, .inr (6, [.int v_p1_leases_most, .ref a_p1_leases_parts, .int v_p1_leases_size])), (a_this_leases_parts, .inl (G.2.1, 50, .inl v_leases_parts)), (a_p1_leases_parts, .inl (G.2.1, 50, .inl v_p1_leases_parts)), (a_this_past, .inr (2, [.ref a_this_past_rows, .ref a_this_past_places])), (a_this_past_rows, .inr (6, [.int v_past_rows_most, .ref a_this_past_rows_parts, .int v_past_rows_size]))] s.heap := hP
  have hl := lv_entry ([.ref a_this, .ref a_p1]) (n := 2) (Nat.le_of_ble_eq_true rfl)
  have hent : entryFrame m args 2 = F0 m 0 ((lg_sl ([.ref a_this, .ref a_p1]) ++ List.replicate (2 - (lg_sl ([.ref a_this, .ref a_p1])).length) Slot.unset).toArray) [] := by rw [hargs]; exact lg_entry_eq m [.ref a_this, .ref a_p1] 2
  refine W.eq hent ?_
  clear hent
  generalize (lg_sl ([.ref a_this, .ref a_p1]) ++ List.replicate (2 - (lg_sl ([.ref a_this, .ref a_p1])).length) Slot.unset).toArray = ls at hl ⊢
  have hl : lv_has ls 2 [(0, .ref a_this), (1, .ref a_p1)] := hl
  generalize hQ : MQ below _ args s 0 0 _ = QQ
  change W p l e rm_X0_startWith s m args below meth c s.heap [] 0 0 QQ _
  have hSH := hS
  unfold f_X0_startWith at hf
  refine lv_aload_n hx hb dX0_startWith_0 rfl (lv_at hl 0 rfl) ?_
  refine lv_iconst (v := (0 : Int32)) hx hb dX0_startWith_1 (by decide) ?_
  refine va_put (D := G.1) (ci := 0) (v := .int (0 : Int32)) (ty := .int) (C := RX0) (T := TX0) (N := 5) hx hb hts inX0 tyX0 tyX0_ok nmX0 hown hK hP hD hS 0 rfl rfl 0 (by decide) lk9 (fun _ h9 => h9) rfl (by decide +kernel) rfl rfl (Nat.le_of_ble_eq_true rfl) dX0_startWith_2 (fun H locs hP hD hS => ?_)
  have hP : va_P G.1 vwCl [(a_this, .inr (0, [.int (0 : Int32), .int v_lot, .ref a_this_purses, .ref a_this_leases, .ref a_this_past])), (a_p1, .inr (5, [.int v_p1_squares, .int v_p1_stars, .ref a_p1_starts, .ref a_p1_paces, .ref a_p1_brights, .int v_p1_tenants, .ref a_p1_purses, .ref a_p1_leases])), (a_p1_purses, .inl (G.2.1, 4, .inl v_p1_purses)), (a_this_purses, .inl (G.2.1, 4, .inl v_purses)), (a_this_leases, .inr (6, [.int v_leases_most, .ref a_this_leases_parts, .int v_leases_size])), (a_p1_leases, .inr (6, [.int v_p1_leases_most, .ref a_p1_leases_parts, .int v_p1_leases_size])), (a_this_leases_parts, .inl (G.2.1, 50, .inl v_leases_parts)), (a_p1_leases_parts, .inl (G.2.1, 50, .inl v_p1_leases_parts)), (a_this_past, .inr (2, [.ref a_this_past_rows, .ref a_this_past_places])), (a_this_past_rows, .inr (6, [.int v_past_rows_most, .ref a_this_past_rows_parts, .int v_past_rows_size]))] H := hP
  have hD : va_D A [(a_this, .inr (0, [.int (0 : Int32), .int v_lot, .ref a_this_purses, .ref a_this_leases, .ref a_this_past])), (a_p1, .inr (5, [.int v_p1_squares, .int v_p1_stars, .ref a_p1_starts, .ref a_p1_paces, .ref a_p1_brights, .int v_p1_tenants, .ref a_p1_purses, .ref a_p1_leases])), (a_p1_purses, .inl (G.2.1, 4, .inl v_p1_purses)), (a_this_purses, .inl (G.2.1, 4, .inl v_purses)), (a_this_leases, .inr (6, [.int v_leases_most, .ref a_this_leases_parts, .int v_leases_size])), (a_p1_leases, .inr (6, [.int v_p1_leases_most, .ref a_p1_leases_parts, .int v_p1_leases_size])), (a_this_leases_parts, .inl (G.2.1, 50, .inl v_leases_parts)), (a_p1_leases_parts, .inl (G.2.1, 50, .inl v_p1_leases_parts)), (a_this_past, .inr (2, [.ref a_this_past_rows, .ref a_this_past_places])), (a_this_past_rows, .inr (6, [.int v_past_rows_most, .ref a_this_past_rows_parts, .int v_past_rows_size]))] := hD
  refine lv_aload_n hx hb dX0_startWith_5 rfl (lv_at hl 1 rfl) ?_
  refine va_get (D := G.1) (ci := 5) (v := .ref a_p1_purses) (C := RX5) (T := TX5) (N := 8) hx hb hts inX5 hown hK hP 1 rfl rfl 6 (by decide) lk38 (fun _ h9 => h9) rfl dX0_startWith_6 ?_
  refine lv_iconst (v := (0 : Int32)) hx hb dX0_startWith_9 (by decide) ?_
  refine lv_aload_n hx hb dX0_startWith_10 rfl (lv_at hl 0 rfl) ?_
  refine va_get (D := G.1) (ci := 0) (v := .ref a_this_purses) (C := RX0) (T := TX0) (N := 5) hx hb hts inX0 hown hK hP 0 rfl rfl 2 (by decide) lk18 (fun _ h9 => h9) rfl dX0_startWith_11 ?_
  refine lv_iconst (v := (0 : Int32)) hx hb dX0_startWith_14 (by decide) ?_
  refine lv_iconst (v := (4 : Int32)) hx hb dX0_startWith_15 (by decide) ?_
  obtain ⟨hg5, hf⟩ := gd_some hf
  refine z_copyi hx hb (by rw [hml]; exact hl.1.symm) hown (hts (.methodLink RX0 41 arraycopyName) (by decide +kernel)) (hts (.native arraycopyName) (by decide +kernel)) (hts (.static arraycopyName) (by decide +kernel)) (hts (.initialized "java/lang/System") (by decide +kernel)) hK hP hD hS 2 3 rfl rfl hg5 (Nat.le_of_ble_eq_true rfl) (Nat.le_of_ble_eq_true rfl) dX0_startWith_16 (fun gg => [(a_this, .inr (0, [.int (0 : Int32), .int v_lot, .ref a_this_purses, .ref a_this_leases, .ref a_this_past])), (a_p1, .inr (5, [.int v_p1_squares, .int v_p1_stars, .ref a_p1_starts, .ref a_p1_paces, .ref a_p1_brights, .int v_p1_tenants, .ref a_p1_purses, .ref a_p1_leases])), (a_p1_purses, .inl (G.2.1, 4, .inl v_p1_purses)), (a_this_purses, .inl (G.2.1, 4, .inl gg)), (a_this_leases, .inr (6, [.int v_leases_most, .ref a_this_leases_parts, .int v_leases_size])), (a_p1_leases, .inr (6, [.int v_p1_leases_most, .ref a_p1_leases_parts, .int v_p1_leases_size])), (a_this_leases_parts, .inl (G.2.1, 50, .inl v_leases_parts)), (a_p1_leases_parts, .inl (G.2.1, 50, .inl v_p1_leases_parts)), (a_this_past, .inr (2, [.ref a_this_past_rows, .ref a_this_past_places])), (a_this_past_rows, .inr (6, [.int v_past_rows_most, .ref a_this_past_rows_parts, .int v_past_rows_size]))]) (fun gg => rfl) (fun y6 H locs ey6 hP hD hS => ?_)
  have hf := nm_to hf ey6
  have hP : va_P G.1 vwCl [(a_this, .inr (0, [.int (0 : Int32), .int v_lot, .ref a_this_purses, .ref a_this_leases, .ref a_this_past])), (a_p1, .inr (5, [.int v_p1_squares, .int v_p1_stars, .ref a_p1_starts, .ref a_p1_paces, .ref a_p1_brights, .int v_p1_tenants, .ref a_p1_purses, .ref a_p1_leases])), (a_p1_purses, .inl (G.2.1, 4, .inl v_p1_purses)), (a_this_purses, .inl (G.2.1, 4, .inl y6)), (a_this_leases, .inr (6, [.int v_leases_most, .ref a_this_leases_parts, .int v_leases_size])), (a_p1_leases, .inr (6, [.int v_p1_leases_most, .ref a_p1_leases_parts, .int v_p1_leases_size])), (a_this_leases_parts, .inl (G.2.1, 50, .inl v_leases_parts)), (a_p1_leases_parts, .inl (G.2.1, 50, .inl v_p1_leases_parts)), (a_this_past, .inr (2, [.ref a_this_past_rows, .ref a_this_past_places])), (a_this_past_rows, .inr (6, [.int v_past_rows_most, .ref a_this_past_rows_parts, .int v_past_rows_size]))] H := hP
  have hD : va_D A [(a_this, .inr (0, [.int (0 : Int32), .int v_lot, .ref a_this_purses, .ref a_this_leases, .ref a_this_past])), (a_p1, .inr (5, [.int v_p1_squares, .int v_p1_stars, .ref a_p1_starts, .ref a_p1_paces, .ref a_p1_brights, .int v_p1_tenants, .ref a_p1_purses, .ref a_p1_leases])), (a_p1_purses, .inl (G.2.1, 4, .inl v_p1_purses)), (a_this_purses, .inl (G.2.1, 4, .inl y6)), (a_this_leases, .inr (6, [.int v_leases_most, .ref a_this_leases_parts, .int v_leases_size])), (a_p1_leases, .inr (6, [.int v_p1_leases_most, .ref a_p1_leases_parts, .int v_p1_leases_size])), (a_this_leases_parts, .inl (G.2.1, 50, .inl v_leases_parts)), (a_p1_leases_parts, .inl (G.2.1, 50, .inl v_p1_leases_parts)), (a_this_past, .inr (2, [.ref a_this_past_rows, .ref a_this_past_places])), (a_this_past_rows, .inr (6, [.int v_past_rows_most, .ref a_this_past_rows_parts, .int v_past_rows_size]))] := hD
  refine lv_aload_n hx hb dX0_startWith_19 rfl (lv_at hl 0 rfl) ?_
  refine va_get (D := G.1) (ci := 0) (v := .ref a_this_leases) (C := RX0) (T := TX0) (N := 5) hx hb hts inX0 hown hK hP 0 rfl rfl 3 (by decide) lk27 (fun _ h9 => h9) rfl dX0_startWith_20 ?_
  refine lv_aload_n hx hb dX0_startWith_23 rfl (lv_at hl 1 rfl) ?_
  refine va_get (D := G.1) (ci := 5) (v := .ref a_p1_leases) (C := RX5) (T := TX5) (N := 8) hx hb hts inX5 hown hK hP 1 rfl rfl 7 (by decide) lk47 (fun _ h9 => h9) rfl dX0_startWith_24 ?_
  obtain ⟨w7, w8, hu, hf⟩ := bd2_some hf
  refine zWn (wr := [(a_this, .inr (0, [.int (0 : Int32), .int v_lot, .ref a_this_purses, .ref a_this_leases, .ref a_this_past])), (a_p1, .inr (5, [.int v_p1_squares, .int v_p1_stars, .ref a_p1_starts, .ref a_p1_paces, .ref a_p1_brights, .int v_p1_tenants, .ref a_p1_purses, .ref a_p1_leases])), (a_p1_purses, .inl (G.2.1, 4, .inl v_p1_purses)), (a_this_purses, .inl (G.2.1, 4, .inl y6)), (a_this_past, .inr (2, [.ref a_this_past_rows, .ref a_this_past_places])), (a_this_past_rows, .inr (6, [.int v_past_rows_most, .ref a_this_past_rows_parts, .int v_past_rows_size]))]) (ws2 := [(a_this, .inr (0, [.int (0 : Int32), .int v_lot, .ref a_this_purses, .ref a_this_leases, .ref a_this_past])), (a_p1, .inr (5, [.int v_p1_squares, .int v_p1_stars, .ref a_p1_starts, .ref a_p1_paces, .ref a_p1_brights, .int v_p1_tenants, .ref a_p1_purses, .ref a_p1_leases])), (a_p1_purses, .inl (G.2.1, 4, .inl v_p1_purses)), (a_this_purses, .inl (G.2.1, 4, .inl y6)), (a_this_leases, .inr (6, [.int v_leases_most, .ref a_this_leases_parts, .int w7])), (a_p1_leases, .inr (6, [.int v_p1_leases_most, .ref a_p1_leases_parts, .int v_p1_leases_size])), (a_this_leases_parts, .inl (G.2.1, 50, .inl w8)), (a_p1_leases_parts, .inl (G.2.1, 50, .inl v_p1_leases_parts)), (a_this_past, .inr (2, [.ref a_this_past_rows, .ref a_this_past_places])), (a_this_past_rows, .inr (6, [.int v_past_rows_most, .ref a_this_past_rows_parts, .int v_past_rows_size]))]) (va_runV (As := [.ref a_p1_leases]) (rest := []) hC (c_X6_become l G _ a_this_leases a_p1_leases a_this_leases_parts a_p1_leases_parts (v_leases_most) (v_leases_size) (v_p1_leases_most) (v_p1_leases_size) (v_leases_parts) (v_p1_leases_parts) w7 w8 hu) (cwV 1 hts gX0_startWith_X6_become rfl rfl rfl hd_X6_become ⟨(Nat.le_of_ble_eq_true rfl), (Nat.le_of_ble_eq_true rfl)⟩) (zPVw hE hP hD [4, 5, 6, 7] rfl rfl 4 rfl rfl) rfl rfl hl.1 rfl (lv_room (Nat.le_of_ble_eq_true rfl)) dX0_startWith_27 ⟨Nat.zero_le _, Nat.zero_le _⟩) hP hD hS hA [4, 5, 6, 7] [0, 1, 2, 3, 8, 9] [0, 1, 2, 3, 6, 7, 8, 9, 4, 5] rfl rfl rfl rfl (by decide) rfl rfl rfl (fun H locs hP hD hS => ?_)
  refine lv_aload_n hx hb dX0_startWith_30 rfl (lv_at hl 0 rfl) ?_
  refine va_get (D := G.1) (ci := 0) (v := .ref a_this_past) (C := RX0) (T := TX0) (N := 5) hx hb hts inX0 hown hK hP 0 rfl rfl 4 (by decide) lk34 (fun _ h9 => h9) rfl dX0_startWith_31 ?_
  refine va_get (D := G.1) (ci := 2) (v := .ref a_this_past_rows) (C := RX2) (T := TX2) (N := 2) hx hb hts inX2 hown hK hP 8 rfl rfl 0 (by decide) lk52 (fun _ h9 => h9) rfl dX0_startWith_34 ?_
  refine lv_iconst (v := (0 : Int32)) hx hb dX0_startWith_37 (by decide) ?_
  refine va_put (D := G.1) (ci := 6) (v := .int (0 : Int32)) (ty := .int) (C := RX6) (T := TX6) (N := 3) hx hb hts inX6 tyX6 tyX6_ok nmX6 hown hK hP hD hS 9 rfl rfl 2 (by decide) lk55 (fun _ h9 => h9) rfl (by decide +kernel) rfl rfl (Nat.le_of_ble_eq_true rfl) dX0_startWith_38 (fun H locs hP hD hS => ?_)
  have hP : va_P G.1 vwCl [(a_this, .inr (0, [.int (0 : Int32), .int v_lot, .ref a_this_purses, .ref a_this_leases, .ref a_this_past])), (a_p1, .inr (5, [.int v_p1_squares, .int v_p1_stars, .ref a_p1_starts, .ref a_p1_paces, .ref a_p1_brights, .int v_p1_tenants, .ref a_p1_purses, .ref a_p1_leases])), (a_p1_purses, .inl (G.2.1, 4, .inl v_p1_purses)), (a_this_purses, .inl (G.2.1, 4, .inl y6)), (a_this_leases, .inr (6, [.int v_leases_most, .ref a_this_leases_parts, .int w7])), (a_p1_leases, .inr (6, [.int v_p1_leases_most, .ref a_p1_leases_parts, .int v_p1_leases_size])), (a_this_leases_parts, .inl (G.2.1, 50, .inl w8)), (a_p1_leases_parts, .inl (G.2.1, 50, .inl v_p1_leases_parts)), (a_this_past, .inr (2, [.ref a_this_past_rows, .ref a_this_past_places])), (a_this_past_rows, .inr (6, [.int v_past_rows_most, .ref a_this_past_rows_parts, .int (0 : Int32)]))] H := hP
  have hD : va_D A [(a_this, .inr (0, [.int (0 : Int32), .int v_lot, .ref a_this_purses, .ref a_this_leases, .ref a_this_past])), (a_p1, .inr (5, [.int v_p1_squares, .int v_p1_stars, .ref a_p1_starts, .ref a_p1_paces, .ref a_p1_brights, .int v_p1_tenants, .ref a_p1_purses, .ref a_p1_leases])), (a_p1_purses, .inl (G.2.1, 4, .inl v_p1_purses)), (a_this_purses, .inl (G.2.1, 4, .inl y6)), (a_this_leases, .inr (6, [.int v_leases_most, .ref a_this_leases_parts, .int w7])), (a_p1_leases, .inr (6, [.int v_p1_leases_most, .ref a_p1_leases_parts, .int v_p1_leases_size])), (a_this_leases_parts, .inl (G.2.1, 50, .inl w8)), (a_p1_leases_parts, .inl (G.2.1, 50, .inl v_p1_leases_parts)), (a_this_past, .inr (2, [.ref a_this_past_rows, .ref a_this_past_places])), (a_this_past_rows, .inr (6, [.int v_past_rows_most, .ref a_this_past_rows_parts, .int (0 : Int32)]))] := hD
  obtain ⟨hr0, hr1, hr2, hr3, hr4⟩ := so5 hf
  subst hr0
  subst hr1
  subst hr2
  subst hr3
  subst hr4
  rw [← hQ]
  exact W.vret hx hb hr (fun t ht hW => ⟨⟨rfl, by rw [ht]; exact hP⟩, hS.F ht⟩) hS.2.2 dX0_startWith_41
theorem hd_X2_become : yX2_become.cls = RX2 ∧ yX2_become.cls ≠ "java/lang/invoke/MethodHandle" ∧ yX2_become.cls ≠ "java/lang/invoke/VarHandle" ∧ (parseMethodDescriptor yX2_become.desc).map (fun d => d.parameters.length) = some 1 := by decide +kernel
def f_X0_become  (v_night : Int32) (v_lot : Int32) (v_p1_night : Int32) (v_p1_lot : Int32) (v_p1_purses : (Nat → Int32)) (v_purses : (Nat → Int32)) (v_leases_size : Int32) (v_p1_leases_size : Int32) (v_leases_parts : (Nat → Int32)) (v_p1_leases_parts : (Nat → Int32)) (v_past_rows_size : Int32) (v_p1_past_rows_size : Int32) (v_past_rows_parts : (Nat → Int32)) (v_p1_past_rows_parts : (Nat → Int32)) (v_p1_past_places : (Nat → Int32)) (v_past_places : (Nat → Int32))  : Option (Int32 × Int32 × (Nat → Int32) × Int32 × (Nat → Int32) × Int32 × (Nat → Int32) × (Nat → Int32)) := gd (cpB (0 : Int32) (0 : Int32) (4 : Int32) 4 4) (nm (va_cpy v_p1_purses v_purses ((0 : Int32)).toNatClampNeg ((0 : Int32)).toNatClampNeg ((4 : Int32)).toNatClampNeg) fun y9 => bd2 (f_X6_become (v_leases_size) (v_p1_leases_size) (v_leases_parts) (v_p1_leases_parts)) fun w10 w11 => bd3 (f_X2_become (v_past_rows_size) (v_p1_past_rows_size) (v_past_rows_parts) (v_p1_past_rows_parts) (v_p1_past_places) (v_past_places)) fun w12 w13 w14 => some (v_p1_night, v_p1_lot, y9, w10, w11, w12, w13, w14))
abbrev rm_X0_become : Room := { frames := 3, cells := 0, slots := 0, locals := 74 }
set_option maxHeartbeats 4000000 in
set_option maxRecDepth 100000 in
theorem c_X0_become (l : Launch) (G : zG) (sz : Nat) (a_this : Nat) (a_p1 : Nat) (a_p1_purses : Nat) (a_this_purses : Nat) (a_this_leases : Nat) (a_p1_leases : Nat) (a_this_leases_parts : Nat) (a_p1_leases_parts : Nat) (a_this_past : Nat) (a_p1_past : Nat) (a_this_past_rows : Nat) (a_p1_past_rows : Nat) (a_this_past_rows_parts : Nat) (a_p1_past_rows_parts : Nat) (a_p1_past_places : Nat) (a_this_past_places : Nat) (v_night : Int32) (v_lot : Int32) (v_p1_night : Int32) (v_p1_lot : Int32) (v_p1_purses : (Nat → Int32)) (v_purses : (Nat → Int32)) (v_leases_most : Int32) (v_leases_size : Int32) (v_p1_leases_most : Int32) (v_p1_leases_size : Int32) (v_leases_parts : (Nat → Int32)) (v_p1_leases_parts : (Nat → Int32)) (v_past_rows_most : Int32) (v_past_rows_size : Int32) (v_p1_past_rows_most : Int32) (v_p1_past_rows_size : Int32) (v_past_rows_parts : (Nat → Int32)) (v_p1_past_rows_parts : (Nat → Int32)) (v_p1_past_places : (Nat → Int32)) (v_past_places : (Nat → Int32)) (R1 : Int32) (R2 : Int32) (R3 : (Nat → Int32)) (R4 : Int32) (R5 : (Nat → Int32)) (R6 : Int32) (R7 : (Nat → Int32)) (R8 : (Nat → Int32)) (hf : f_X0_become v_night v_lot v_p1_night v_p1_lot v_p1_purses v_purses v_leases_size v_p1_leases_size v_leases_parts v_p1_leases_parts v_past_rows_size v_p1_past_rows_size v_past_rows_parts v_p1_past_rows_parts v_p1_past_places v_past_places = some (R1, R2, R3, R4, R5, R6, R7, R8)) : Met l yX0_become wsX0_become rm_X0_become (va_Pc [.ref a_this, .ref a_p1] (zB G [(a_this, .inr (0, [.int v_night, .int v_lot, .ref a_this_purses, .ref a_this_leases, .ref a_this_past])), (a_p1, .inr (0, [.int v_p1_night, .int v_p1_lot, .ref a_p1_purses, .ref a_p1_leases, .ref a_p1_past])), (a_p1_purses, .inl (G.2.1, 4, .inl v_p1_purses)), (a_this_purses, .inl (G.2.1, 4, .inl v_purses)), (a_this_leases, .inr (6, [.int v_leases_most, .ref a_this_leases_parts, .int v_leases_size])), (a_p1_leases, .inr (6, [.int v_p1_leases_most, .ref a_p1_leases_parts, .int v_p1_leases_size])), (a_this_leases_parts, .inl (G.2.1, 50, .inl v_leases_parts)), (a_p1_leases_parts, .inl (G.2.1, 50, .inl v_p1_leases_parts)), (a_this_past, .inr (2, [.ref a_this_past_rows, .ref a_this_past_places])), (a_p1_past, .inr (2, [.ref a_p1_past_rows, .ref a_p1_past_places])), (a_this_past_rows, .inr (6, [.int v_past_rows_most, .ref a_this_past_rows_parts, .int v_past_rows_size])), (a_p1_past_rows, .inr (6, [.int v_p1_past_rows_most, .ref a_p1_past_rows_parts, .int v_p1_past_rows_size])), (a_this_past_rows_parts, .inl (G.2.1, 50, .inl v_past_rows_parts)), (a_p1_past_rows_parts, .inl (G.2.1, 50, .inl v_p1_past_rows_parts)), (a_p1_past_places, .inl (G.2.1, 6, .inl v_p1_past_places)), (a_this_past_places, .inl (G.2.1, 6, .inl v_past_places))] sz)) (zQ G none [(a_this, .inr (0, [.int R1, .int R2, .ref a_this_purses, .ref a_this_leases, .ref a_this_past])), (a_p1, .inr (0, [.int v_p1_night, .int v_p1_lot, .ref a_p1_purses, .ref a_p1_leases, .ref a_p1_past])), (a_p1_purses, .inl (G.2.1, 4, .inl v_p1_purses)), (a_this_purses, .inl (G.2.1, 4, .inl R3)), (a_this_leases, .inr (6, [.int v_leases_most, .ref a_this_leases_parts, .int R4])), (a_p1_leases, .inr (6, [.int v_p1_leases_most, .ref a_p1_leases_parts, .int v_p1_leases_size])), (a_this_leases_parts, .inl (G.2.1, 50, .inl R5)), (a_p1_leases_parts, .inl (G.2.1, 50, .inl v_p1_leases_parts)), (a_this_past, .inr (2, [.ref a_this_past_rows, .ref a_this_past_places])), (a_p1_past, .inr (2, [.ref a_p1_past_rows, .ref a_p1_past_places])), (a_this_past_rows, .inr (6, [.int v_past_rows_most, .ref a_this_past_rows_parts, .int R6])), (a_p1_past_rows, .inr (6, [.int v_p1_past_rows_most, .ref a_p1_past_rows_parts, .int v_p1_past_rows_size])), (a_this_past_rows_parts, .inl (G.2.1, 50, .inl R7)), (a_p1_past_rows_parts, .inl (G.2.1, 50, .inl v_p1_past_rows_parts)), (a_p1_past_places, .inl (G.2.1, 6, .inl v_p1_past_places)), (a_this_past_places, .inl (G.2.1, 6, .inl R8))] (va_A [(a_this, .inr (0, [.int v_night, .int v_lot, .ref a_this_purses, .ref a_this_leases, .ref a_this_past])), (a_p1, .inr (0, [.int v_p1_night, .int v_p1_lot, .ref a_p1_purses, .ref a_p1_leases, .ref a_p1_past])), (a_p1_purses, .inl (G.2.1, 4, .inl v_p1_purses)), (a_this_purses, .inl (G.2.1, 4, .inl v_purses)), (a_this_leases, .inr (6, [.int v_leases_most, .ref a_this_leases_parts, .int v_leases_size])), (a_p1_leases, .inr (6, [.int v_p1_leases_most, .ref a_p1_leases_parts, .int v_p1_leases_size])), (a_this_leases_parts, .inl (G.2.1, 50, .inl v_leases_parts)), (a_p1_leases_parts, .inl (G.2.1, 50, .inl v_p1_leases_parts)), (a_this_past, .inr (2, [.ref a_this_past_rows, .ref a_this_past_places])), (a_p1_past, .inr (2, [.ref a_p1_past_rows, .ref a_p1_past_places])), (a_this_past_rows, .inr (6, [.int v_past_rows_most, .ref a_this_past_rows_parts, .int v_past_rows_size])), (a_p1_past_rows, .inr (6, [.int v_p1_past_rows_most, .ref a_p1_past_rows_parts, .int v_p1_past_rows_size])), (a_this_past_rows_parts, .inl (G.2.1, 50, .inl v_past_rows_parts)), (a_p1_past_rows_parts, .inl (G.2.1, 50, .inl v_p1_past_rows_parts)), (a_p1_past_places, .inl (G.2.1, 6, .inl v_p1_past_places)), (a_this_past_places, .inl (G.2.1, 6, .inl v_past_places))] sz)) 0 0 (va_A [(a_this, .inr (0, [.int v_night, .int v_lot, .ref a_this_purses, .ref a_this_leases, .ref a_this_past])), (a_p1, .inr (0, [.int v_p1_night, .int v_p1_lot, .ref a_p1_purses, .ref a_p1_leases, .ref a_p1_past])), (a_p1_purses, .inl (G.2.1, 4, .inl v_p1_purses)), (a_this_purses, .inl (G.2.1, 4, .inl v_purses)), (a_this_leases, .inr (6, [.int v_leases_most, .ref a_this_leases_parts, .int v_leases_size])), (a_p1_leases, .inr (6, [.int v_p1_leases_most, .ref a_p1_leases_parts, .int v_p1_leases_size])), (a_this_leases_parts, .inl (G.2.1, 50, .inl v_leases_parts)), (a_p1_leases_parts, .inl (G.2.1, 50, .inl v_p1_leases_parts)), (a_this_past, .inr (2, [.ref a_this_past_rows, .ref a_this_past_places])), (a_p1_past, .inr (2, [.ref a_p1_past_rows, .ref a_p1_past_places])), (a_this_past_rows, .inr (6, [.int v_past_rows_most, .ref a_this_past_rows_parts, .int v_past_rows_size])), (a_p1_past_rows, .inr (6, [.int v_p1_past_rows_most, .ref a_p1_past_rows_parts, .int v_p1_past_rows_size])), (a_this_past_rows_parts, .inl (G.2.1, 50, .inl v_past_rows_parts)), (a_p1_past_rows_parts, .inl (G.2.1, 50, .inl v_p1_past_rows_parts)), (a_p1_past_places, .inl (G.2.1, 6, .inl v_p1_past_places)), (a_this_past_places, .inl (G.2.1, 6, .inl v_past_places))] sz) := by
  refine Met.ofW (cc := cX0_become) (maxL := 2) (ret := none) (by decide) rfl ?_
  intro p e s m args below meth c s₁ B hml hv
  obtain ⟨hargs, hsz, hP, hD0, hE⟩ := hv
  have hx := B.exec
  have hb := B.bytes
  have hr := B.returns
  have hts := atoms_spec (ws := wsX0_become) B.pre
  have hown : s.vm.findClass RX0 = some m.cls := findClass_of_methodNamed B.named
  have hlocks := B.notSynchronized
  have hK := hE.1
  have hC : CallFix p m c cX0_become 2 s args wsX0_become RX0 := ⟨hx, hb, hml, hown, hts⟩
  have inX0 : ∀ w ∈ wsX00, w ∈ wsX0_become := by decide +kernel
  have lk9 := hts (.fieldLink RX0 9 "SkyLeases$Now" "night" "I") (by decide +kernel)
  have lk15 := hts (.fieldLink RX0 15 "SkyLeases$Now" "lot" "I") (by decide +kernel)
  have lk18 := hts (.fieldLink RX0 18 "SkyLeases$Now" "purses" "[I") (by decide +kernel)
  have lk27 := hts (.fieldLink RX0 27 "SkyLeases$Now" "leases" "LSkyLeases$Terms;") (by decide +kernel)
  have lk34 := hts (.fieldLink RX0 34 "SkyLeases$Now" "past" "LSkyLeases$Past;") (by decide +kernel)
  subst hsz
  have hD := hD0.self (sz := s.heap.size)
  generalize hAe : va_A [(a_this, .inr (0, [.int v_night, .int v_lot, .ref a_this_purses, .ref a_this_leases, .ref a_this_past])), (a_p1, .inr (0, [.int v_p1_night, .int v_p1_lot, .ref a_p1_purses, .ref a_p1_leases, .ref a_p1_past])), (a_p1_purses, .inl (G.2.1, 4, .inl v_p1_purses)), (a_this_purses, .inl (G.2.1, 4, .inl v_purses)), (a_this_leases, .inr (6, [.int v_leases_most, .ref a_this_leases_parts, .int v_leases_size])), (a_p1_leases, .inr (6, [.int v_p1_leases_most, .ref a_p1_leases_parts, .int v_p1_leases_size])), (a_this_leases_parts, .inl (G.2.1, 50, .inl v_leases_parts)), (a_p1_leases_parts, .inl (G.2.1, 50, .inl v_p1_leases_parts)), (a_this_past, .inr (2, [.ref a_this_past_rows, .ref a_this_past_places])), (a_p1_past, .inr (2, [.ref a_p1_past_rows, .ref a_p1_past_places])), (a_this_past_rows, .inr (6, [.int v_past_rows_most, .ref a_this_past_rows_parts, .int v_past_rows_size])), (a_p1_past_rows, .inr (6, [.int v_p1_past_rows_most, .ref a_p1_past_rows_parts, .int v_p1_past_rows_size])), (a_this_past_rows_parts, .inl (G.2.1, 50, .inl v_past_rows_parts)), (a_p1_past_rows_parts, .inl (G.2.1, 50, .inl v_p1_past_rows_parts)), (a_p1_past_places, .inl (G.2.1, 6, .inl v_p1_past_places)), (a_this_past_places, .inl (G.2.1, 6, .inl v_past_places))] s.heap.size = A at hD ⊢
  have hA : ∀ q : Nat, s.heap.size ≤ q → A q := fun q h => by rw [← hAe]; exact Or.inr h
  have hS : va_S A s.heap s.heap [] := va_S.rf
  have hP : va_P G.1 vwCl [(a_this, .inr (0, [.int v_night, .int v_lot, .ref a_this_purses, .ref a_this_leases, .ref a_this_past])), (a_p1, .inr (0, [.int v_p1_night, .int v_p1_lot, .ref a_p1_purses, .ref a_p1_leases, .ref a_p1_past])), (a_p1_purses, .inl (G.2.1, 4, .inl v_p1_purses)), (a_this_purses, .inl (G.2.1, 4, .inl v_purses)), (a_this_leases, .inr (6, [.int v_leases_most, .ref a_this_leases_parts, .int v_leases_size])), (a_p1_leases, .inr (6, [.int v_p1_leases_most, .ref a_p1_leases_parts, .int v_p1_leases_size])), (a_this_leases_parts, .inl (G.2.1, 50, .inl v_leases_parts)), (a_p1_leases_parts, .inl (G.2.1, 50, .inl v_p1_leases_parts)), (a_this_past, .inr (2, [.ref a_this_past_rows, .ref a_this_past_places])), (a_p1_past, .inr (2, [.ref a_p1_past_rows, .ref a_p1_past_places])), (a_this_past_rows, .inr (6, [.int v_past_rows_most, .ref a_this_past_rows_parts, .int v_past_rows_size])), (a_p1_past_rows, .inr (6, [.int v_p1_past_rows_most, .ref a_p1_past_rows_parts, .int v_p1_past_rows_size])), (a_this_past_rows_parts, .inl (G.2.1, 50, .inl v_past_rows_parts)), (a_p1_past_rows_parts, .inl (G.2.1, 50, .inl v_p1_past_rows_parts)), (a_p1_past_places, .inl (G.2.1, 6, .inl v_p1_past_places)), (a_this_past_places, .inl (G.2.1, 6, .inl v_past_places))] s.heap := hP
  have hl := lv_entry ([.ref a_this, .ref a_p1]) (n := 2) (Nat.le_of_ble_eq_true rfl)
  have hent : entryFrame m args 2 = F0 m 0 ((lg_sl ([.ref a_this, .ref a_p1]) ++ List.replicate (2 - (lg_sl ([.ref a_this, .ref a_p1])).length) Slot.unset).toArray) [] := by rw [hargs]; exact lg_entry_eq m [.ref a_this, .ref a_p1] 2
  refine W.eq hent ?_
  clear hent
  generalize (lg_sl ([.ref a_this, .ref a_p1]) ++ List.replicate (2 - (lg_sl ([.ref a_this, .ref a_p1])).length) Slot.unset).toArray = ls at hl ⊢
  have hl : lv_has ls 2 [(0, .ref a_this), (1, .ref a_p1)] := hl
  generalize hQ : MQ below _ args s 0 0 _ = QQ
  change W p l e rm_X0_become s m args below meth c s.heap [] 0 0 QQ _
  have hSH := hS
  unfold f_X0_become at hf
  refine lv_aload_n hx hb dX0_become_0 rfl (lv_at hl 0 rfl) ?_
  refine lv_aload_n hx hb dX0_become_1 rfl (lv_at hl 1 rfl) ?_
  refine va_get (D := G.1) (ci := 0) (v := .int v_p1_night) (C := RX0) (T := TX0) (N := 5) hx hb hts inX0 hown hK hP 1 rfl rfl 0 (by decide) lk9 (fun _ h9 => h9) rfl dX0_become_2 ?_
  refine va_put (D := G.1) (ci := 0) (v := .int v_p1_night) (ty := .int) (C := RX0) (T := TX0) (N := 5) hx hb hts inX0 tyX0 tyX0_ok nmX0 hown hK hP hD hS 0 rfl rfl 0 (by decide) lk9 (fun _ h9 => h9) rfl (by decide +kernel) rfl rfl (Nat.le_of_ble_eq_true rfl) dX0_become_5 (fun H locs hP hD hS => ?_)
  have hP : va_P G.1 vwCl [(a_this, .inr (0, [.int v_p1_night, .int v_lot, .ref a_this_purses, .ref a_this_leases, .ref a_this_past])), (a_p1, .inr (0, [.int v_p1_night, .int v_p1_lot, .ref a_p1_purses, .ref a_p1_leases, .ref a_p1_past])), (a_p1_purses, .inl (G.2.1, 4, .inl v_p1_purses)), (a_this_purses, .inl (G.2.1, 4, .inl v_purses)), (a_this_leases, .inr (6, [.int v_leases_most, .ref a_this_leases_parts, .int v_leases_size])), (a_p1_leases, .inr (6, [.int v_p1_leases_most, .ref a_p1_leases_parts, .int v_p1_leases_size])), (a_this_leases_parts, .inl (G.2.1, 50, .inl v_leases_parts)), (a_p1_leases_parts, .inl (G.2.1, 50, .inl v_p1_leases_parts)), (a_this_past, .inr (2, [.ref a_this_past_rows, .ref a_this_past_places])), (a_p1_past, .inr (2, [.ref a_p1_past_rows, .ref a_p1_past_places])), (a_this_past_rows, .inr (6, [.int v_past_rows_most, .ref a_this_past_rows_parts, .int v_past_rows_size])), (a_p1_past_rows, .inr (6, [.int v_p1_past_rows_most, .ref a_p1_past_rows_parts, .int v_p1_past_rows_size])), (a_this_past_rows_parts, .inl (G.2.1, 50, .inl v_past_rows_parts)), (a_p1_past_rows_parts, .inl (G.2.1, 50, .inl v_p1_past_rows_parts)), (a_p1_past_places, .inl (G.2.1, 6, .inl v_p1_past_places)), (a_this_past_places, .inl (G.2.1, 6, .inl v_past_places))] H := hP
  have hD : va_D A [(a_this, .inr (0, [.int v_p1_night, .int v_lot, .ref a_this_purses, .ref a_this_leases, .ref a_this_past])), (a_p1, .inr (0, [.int v_p1_night, .int v_p1_lot, .ref a_p1_purses, .ref a_p1_leases, .ref a_p1_past])), (a_p1_purses, .inl (G.2.1, 4, .inl v_p1_purses)), (a_this_purses, .inl (G.2.1, 4, .inl v_purses)), (a_this_leases, .inr (6, [.int v_leases_most, .ref a_this_leases_parts, .int v_leases_size])), (a_p1_leases, .inr (6, [.int v_p1_leases_most, .ref a_p1_leases_parts, .int v_p1_leases_size])), (a_this_leases_parts, .inl (G.2.1, 50, .inl v_leases_parts)), (a_p1_leases_parts, .inl (G.2.1, 50, .inl v_p1_leases_parts)), (a_this_past, .inr (2, [.ref a_this_past_rows, .ref a_this_past_places])), (a_p1_past, .inr (2, [.ref a_p1_past_rows, .ref a_p1_past_places])), (a_this_past_rows, .inr (6, [.int v_past_rows_most, .ref a_this_past_rows_parts, .int v_past_rows_size])), (a_p1_past_rows, .inr (6, [.int v_p1_past_rows_most, .ref a_p1_past_rows_parts, .int v_p1_past_rows_size])), (a_this_past_rows_parts, .inl (G.2.1, 50, .inl v_past_rows_parts)), (a_p1_past_rows_parts, .inl (G.2.1, 50, .inl v_p1_past_rows_parts)), (a_p1_past_places, .inl (G.2.1, 6, .inl v_p1_past_places)), (a_this_past_places, .inl (G.2.1, 6, .inl v_past_places))] := hD
  refine lv_aload_n hx hb dX0_become_8 rfl (lv_at hl 0 rfl) ?_
  refine lv_aload_n hx hb dX0_become_9 rfl (lv_at hl 1 rfl) ?_
  refine va_get (D := G.1) (ci := 0) (v := .int v_p1_lot) (C := RX0) (T := TX0) (N := 5) hx hb hts inX0 hown hK hP 1 rfl rfl 1 (by decide) lk15 (fun _ h9 => h9) rfl dX0_become_10 ?_
  refine va_put (D := G.1) (ci := 0) (v := .int v_p1_lot) (ty := .int) (C := RX0) (T := TX0) (N := 5) hx hb hts inX0 tyX0 tyX0_ok nmX0 hown hK hP hD hS 0 rfl rfl 1 (by decide) lk15 (fun _ h9 => h9) rfl (by decide +kernel) rfl rfl (Nat.le_of_ble_eq_true rfl) dX0_become_13 (fun H locs hP hD hS => ?_)
  have hP : va_P G.1 vwCl [(a_this, .inr (0, [.int v_p1_night, .int v_p1_lot, .ref a_this_purses, .ref a_this_leases, .ref a_this_past])), (a_p1, .inr (0, [.int v_p1_night, .int v_p1_lot, .ref a_p1_purses, .ref a_p1_leases, .ref a_p1_past])), (a_p1_purses, .inl (G.2.1, 4, .inl v_p1_purses)), (a_this_purses, .inl (G.2.1, 4, .inl v_purses)), (a_this_leases, .inr (6, [.int v_leases_most, .ref a_this_leases_parts, .int v_leases_size])), (a_p1_leases, .inr (6, [.int v_p1_leases_most, .ref a_p1_leases_parts, .int v_p1_leases_size])), (a_this_leases_parts, .inl (G.2.1, 50, .inl v_leases_parts)), (a_p1_leases_parts, .inl (G.2.1, 50, .inl v_p1_leases_parts)), (a_this_past, .inr (2, [.ref a_this_past_rows, .ref a_this_past_places])), (a_p1_past, .inr (2, [.ref a_p1_past_rows, .ref a_p1_past_places])), (a_this_past_rows, .inr (6, [.int v_past_rows_most, .ref a_this_past_rows_parts, .int v_past_rows_size])), (a_p1_past_rows, .inr (6, [.int v_p1_past_rows_most, .ref a_p1_past_rows_parts, .int v_p1_past_rows_size])), (a_this_past_rows_parts, .inl (G.2.1, 50, .inl v_past_rows_parts)), (a_p1_past_rows_parts, .inl (G.2.1, 50, .inl v_p1_past_rows_parts)), (a_p1_past_places, .inl (G.2.1, 6, .inl v_p1_past_places)), (a_this_past_places, .inl (G.2.1, 6, .inl v_past_places))] H := hP
  have hD : va_D A [(a_this, .inr (0, [.int v_p1_night, .int v_p1_lot, .ref a_this_purses, .ref a_this_leases, .ref a_this_past])), (a_p1, .inr (0, [.int v_p1_night, .int v_p1_lot, .ref a_p1_purses, .ref a_p1_leases, .ref a_p1_past])), (a_p1_purses, .inl (G.2.1, 4, .inl v_p1_purses)), (a_this_purses, .inl (G.2.1, 4, .inl v_purses)), (a_this_leases, .inr (6, [.int v_leases_most, .ref a_this_leases_parts, .int v_leases_size])), (a_p1_leases, .inr (6, [.int v_p1_leases_most, .ref a_p1_leases_parts, .int v_p1_leases_size])), (a_this_leases_parts, .inl (G.2.1, 50, .inl v_leases_parts)), (a_p1_leases_parts, .inl (G.2.1, 50, .inl v_p1_leases_parts)), (a_this_past, .inr (2, [.ref a_this_past_rows, .ref a_this_past_places])), (a_p1_past, .inr (2, [.ref a_p1_past_rows, .ref a_p1_past_places])), (a_this_past_rows, .inr (6, [.int v_past_rows_most, .ref a_this_past_rows_parts, .int v_past_rows_size])), (a_p1_past_rows, .inr (6, [.int v_p1_past_rows_most, .ref a_p1_past_rows_parts, .int v_p1_past_rows_size])), (a_this_past_rows_parts, .inl (G.2.1, 50, .inl v_past_rows_parts)), (a_p1_past_rows_parts, .inl (G.2.1, 50, .inl v_p1_past_rows_parts)), (a_p1_past_places, .inl (G.2.1, 6, .inl v_p1_past_places)), (a_this_past_places, .inl (G.2.1, 6, .inl v_past_places))] := hD
  refine lv_aload_n hx hb dX0_become_16 rfl (lv_at hl 1 rfl) ?_
  refine va_get (D := G.1) (ci := 0) (v := .ref a_p1_purses) (C := RX0) (T := TX0) (N := 5) hx hb hts inX0 hown hK hP 1 rfl rfl 2 (by decide) lk18 (fun _ h9 => h9) rfl dX0_become_17 ?_
  refine lv_iconst (v := (0 : Int32)) hx hb dX0_become_20 (by decide) ?_
  refine lv_aload_n hx hb dX0_become_21 rfl (lv_at hl 0 rfl) ?_
  refine va_get (D := G.1) (ci := 0) (v := .ref a_this_purses) (C := RX0) (T := TX0) (N := 5) hx hb hts inX0 hown hK hP 0 rfl rfl 2 (by decide) lk18 (fun _ h9 => h9) rfl dX0_become_22 ?_
  refine lv_iconst (v := (0 : Int32)) hx hb dX0_become_25 (by decide) ?_
  refine lv_iconst (v := (4 : Int32)) hx hb dX0_become_26 (by decide) ?_
  obtain ⟨hg8, hf⟩ := gd_some hf
  refine z_copyi hx hb (by rw [hml]; exact hl.1.symm) hown (hts (.methodLink RX0 41 arraycopyName) (by decide +kernel)) (hts (.native arraycopyName) (by decide +kernel)) (hts (.static arraycopyName) (by decide +kernel)) (hts (.initialized "java/lang/System") (by decide +kernel)) hK hP hD hS 2 3 rfl rfl hg8 (Nat.le_of_ble_eq_true rfl) (Nat.le_of_ble_eq_true rfl) dX0_become_27 (fun gg => [(a_this, .inr (0, [.int v_p1_night, .int v_p1_lot, .ref a_this_purses, .ref a_this_leases, .ref a_this_past])), (a_p1, .inr (0, [.int v_p1_night, .int v_p1_lot, .ref a_p1_purses, .ref a_p1_leases, .ref a_p1_past])), (a_p1_purses, .inl (G.2.1, 4, .inl v_p1_purses)), (a_this_purses, .inl (G.2.1, 4, .inl gg)), (a_this_leases, .inr (6, [.int v_leases_most, .ref a_this_leases_parts, .int v_leases_size])), (a_p1_leases, .inr (6, [.int v_p1_leases_most, .ref a_p1_leases_parts, .int v_p1_leases_size])), (a_this_leases_parts, .inl (G.2.1, 50, .inl v_leases_parts)), (a_p1_leases_parts, .inl (G.2.1, 50, .inl v_p1_leases_parts)), (a_this_past, .inr (2, [.ref a_this_past_rows, .ref a_this_past_places])), (a_p1_past, .inr (2, [.ref a_p1_past_rows, .ref a_p1_past_places])), (a_this_past_rows, .inr (6, [.int v_past_rows_most, .ref a_this_past_rows_parts, .int v_past_rows_size])), (a_p1_past_rows, .inr (6, [.int v_p1_past_rows_most, .ref a_p1_past_rows_parts, .int v_p1_past_rows_size])), (a_this_past_rows_parts, .inl (G.2.1, 50, .inl v_past_rows_parts)), (a_p1_past_rows_parts, .inl (G.2.1, 50, .inl v_p1_past_rows_parts)), (a_p1_past_places, .inl (G.2.1, 6, .inl v_p1_past_places)), (a_this_past_places, .inl (G.2.1, 6, .inl v_past_places))]) (fun gg => rfl) (fun y9 H locs ey9 hP hD hS => ?_)
  have hf := nm_to hf ey9
  have hP : va_P G.1 vwCl [(a_this, .inr (0, [.int v_p1_night, .int v_p1_lot, .ref a_this_purses, .ref a_this_leases, .ref a_this_past])), (a_p1, .inr (0, [.int v_p1_night, .int v_p1_lot, .ref a_p1_purses, .ref a_p1_leases, .ref a_p1_past])), (a_p1_purses, .inl (G.2.1, 4, .inl v_p1_purses)), (a_this_purses, .inl (G.2.1, 4, .inl y9)), (a_this_leases, .inr (6, [.int v_leases_most, .ref a_this_leases_parts, .int v_leases_size])), (a_p1_leases, .inr (6, [.int v_p1_leases_most, .ref a_p1_leases_parts, .int v_p1_leases_size])), (a_this_leases_parts, .inl (G.2.1, 50, .inl v_leases_parts)), (a_p1_leases_parts, .inl (G.2.1, 50, .inl v_p1_leases_parts)), (a_this_past, .inr (2, [.ref a_this_past_rows, .ref a_this_past_places])), (a_p1_past, .inr (2, [.ref a_p1_past_rows, .ref a_p1_past_places])), (a_this_past_rows, .inr (6, [.int v_past_rows_most, .ref a_this_past_rows_parts, .int v_past_rows_size])), (a_p1_past_rows, .inr (6, [.int v_p1_past_rows_most, .ref a_p1_past_rows_parts, .int v_p1_past_rows_size])), (a_this_past_rows_parts, .inl (G.2.1, 50, .inl v_past_rows_parts)), (a_p1_past_rows_parts, .inl (G.2.1, 50, .inl v_p1_past_rows_parts)), (a_p1_past_places, .inl (G.2.1, 6, .inl v_p1_past_places)), (a_this_past_places, .inl (G.2.1, 6, .inl v_past_places))] H := hP
  have hD : va_D A [(a_this, .inr (0, [.int v_p1_night, .int v_p1_lot, .ref a_this_purses, .ref a_this_leases, .ref a_this_past])), (a_p1, .inr (0, [.int v_p1_night, .int v_p1_lot, .ref a_p1_purses, .ref a_p1_leases, .ref a_p1_past])), (a_p1_purses, .inl (G.2.1, 4, .inl v_p1_purses)), (a_this_purses, .inl (G.2.1, 4, .inl y9)), (a_this_leases, .inr (6, [.int v_leases_most, .ref a_this_leases_parts, .int v_leases_size])), (a_p1_leases, .inr (6, [.int v_p1_leases_most, .ref a_p1_leases_parts, .int v_p1_leases_size])), (a_this_leases_parts, .inl (G.2.1, 50, .inl v_leases_parts)), (a_p1_leases_parts, .inl (G.2.1, 50, .inl v_p1_leases_parts)), (a_this_past, .inr (2, [.ref a_this_past_rows, .ref a_this_past_places])), (a_p1_past, .inr (2, [.ref a_p1_past_rows, .ref a_p1_past_places])), (a_this_past_rows, .inr (6, [.int v_past_rows_most, .ref a_this_past_rows_parts, .int v_past_rows_size])), (a_p1_past_rows, .inr (6, [.int v_p1_past_rows_most, .ref a_p1_past_rows_parts, .int v_p1_past_rows_size])), (a_this_past_rows_parts, .inl (G.2.1, 50, .inl v_past_rows_parts)), (a_p1_past_rows_parts, .inl (G.2.1, 50, .inl v_p1_past_rows_parts)), (a_p1_past_places, .inl (G.2.1, 6, .inl v_p1_past_places)), (a_this_past_places, .inl (G.2.1, 6, .inl v_past_places))] := hD
  refine lv_aload_n hx hb dX0_become_30 rfl (lv_at hl 0 rfl) ?_
  refine va_get (D := G.1) (ci := 0) (v := .ref a_this_leases) (C := RX0) (T := TX0) (N := 5) hx hb hts inX0 hown hK hP 0 rfl rfl 3 (by decide) lk27 (fun _ h9 => h9) rfl dX0_become_31 ?_
  refine lv_aload_n hx hb dX0_become_34 rfl (lv_at hl 1 rfl) ?_
  refine va_get (D := G.1) (ci := 0) (v := .ref a_p1_leases) (C := RX0) (T := TX0) (N := 5) hx hb hts inX0 hown hK hP 1 rfl rfl 3 (by decide) lk27 (fun _ h9 => h9) rfl dX0_become_35 ?_
  obtain ⟨w10, w11, hu, hf⟩ := bd2_some hf
  refine zWn (wr := [(a_this, .inr (0, [.int v_p1_night, .int v_p1_lot, .ref a_this_purses, .ref a_this_leases, .ref a_this_past])), (a_p1, .inr (0, [.int v_p1_night, .int v_p1_lot, .ref a_p1_purses, .ref a_p1_leases, .ref a_p1_past])), (a_p1_purses, .inl (G.2.1, 4, .inl v_p1_purses)), (a_this_purses, .inl (G.2.1, 4, .inl y9)), (a_this_past, .inr (2, [.ref a_this_past_rows, .ref a_this_past_places])), (a_p1_past, .inr (2, [.ref a_p1_past_rows, .ref a_p1_past_places])), (a_this_past_rows, .inr (6, [.int v_past_rows_most, .ref a_this_past_rows_parts, .int v_past_rows_size])), (a_p1_past_rows, .inr (6, [.int v_p1_past_rows_most, .ref a_p1_past_rows_parts, .int v_p1_past_rows_size])), (a_this_past_rows_parts, .inl (G.2.1, 50, .inl v_past_rows_parts)), (a_p1_past_rows_parts, .inl (G.2.1, 50, .inl v_p1_past_rows_parts)), (a_p1_past_places, .inl (G.2.1, 6, .inl v_p1_past_places)), (a_this_past_places, .inl (G.2.1, 6, .inl v_past_places))]) (ws2 := [(a_this, .inr (0, [.int v_p1_night, .int v_p1_lot, .ref a_this_purses, .ref a_this_leases, .ref a_this_past])), (a_p1, .inr (0, [.int v_p1_night, .int v_p1_lot, .ref a_p1_purses, .ref a_p1_leases, .ref a_p1_past])), (a_p1_purses, .inl (G.2.1, 4, .inl v_p1_purses)), (a_this_purses, .inl (G.2.1, 4, .inl y9)), (a_this_leases, .inr (6, [.int v_leases_most, .ref a_this_leases_parts, .int w10])), (a_p1_leases, .inr (6, [.int v_p1_leases_most, .ref a_p1_leases_parts, .int v_p1_leases_size])), (a_this_leases_parts, .inl (G.2.1, 50, .inl w11)), (a_p1_leases_parts, .inl (G.2.1, 50, .inl v_p1_leases_parts)), (a_this_past, .inr (2, [.ref a_this_past_rows, .ref a_this_past_places])), (a_p1_past, .inr (2, [.ref a_p1_past_rows, .ref a_p1_past_places])), (a_this_past_rows, .inr (6, [.int v_past_rows_most, .ref a_this_past_rows_parts, .int v_past_rows_size])), (a_p1_past_rows, .inr (6, [.int v_p1_past_rows_most, .ref a_p1_past_rows_parts, .int v_p1_past_rows_size])), (a_this_past_rows_parts, .inl (G.2.1, 50, .inl v_past_rows_parts)), (a_p1_past_rows_parts, .inl (G.2.1, 50, .inl v_p1_past_rows_parts)), (a_p1_past_places, .inl (G.2.1, 6, .inl v_p1_past_places)), (a_this_past_places, .inl (G.2.1, 6, .inl v_past_places))]) (va_runV (As := [.ref a_p1_leases]) (rest := []) hC (c_X6_become l G _ a_this_leases a_p1_leases a_this_leases_parts a_p1_leases_parts (v_leases_most) (v_leases_size) (v_p1_leases_most) (v_p1_leases_size) (v_leases_parts) (v_p1_leases_parts) w10 w11 hu) (cwV 1 hts gX0_become_X6_become rfl rfl rfl hd_X6_become ⟨(Nat.le_of_ble_eq_true rfl), (Nat.le_of_ble_eq_true rfl)⟩) (zPVw hE hP hD [4, 5, 6, 7] rfl rfl 4 rfl rfl) rfl rfl hl.1 rfl (lv_room (Nat.le_of_ble_eq_true rfl)) dX0_become_38 ⟨Nat.zero_le _, Nat.zero_le _⟩) hP hD hS hA [4, 5, 6, 7] [0, 1, 2, 3, 8, 9, 10, 11, 12, 13, 14, 15] [0, 1, 2, 3, 12, 13, 14, 15, 4, 5, 6, 7, 8, 9, 10, 11] rfl rfl rfl rfl (by decide) rfl rfl rfl (fun H locs hP hD hS => ?_)
  refine lv_aload_n hx hb dX0_become_41 rfl (lv_at hl 0 rfl) ?_
  refine va_get (D := G.1) (ci := 0) (v := .ref a_this_past) (C := RX0) (T := TX0) (N := 5) hx hb hts inX0 hown hK hP 0 rfl rfl 4 (by decide) lk34 (fun _ h9 => h9) rfl dX0_become_42 ?_
  refine lv_aload_n hx hb dX0_become_45 rfl (lv_at hl 1 rfl) ?_
  refine va_get (D := G.1) (ci := 0) (v := .ref a_p1_past) (C := RX0) (T := TX0) (N := 5) hx hb hts inX0 hown hK hP 1 rfl rfl 4 (by decide) lk34 (fun _ h9 => h9) rfl dX0_become_46 ?_
  obtain ⟨w12, w13, w14, hu, hf⟩ := bd3_some hf
  refine zWn (wr := [(a_this, .inr (0, [.int v_p1_night, .int v_p1_lot, .ref a_this_purses, .ref a_this_leases, .ref a_this_past])), (a_p1, .inr (0, [.int v_p1_night, .int v_p1_lot, .ref a_p1_purses, .ref a_p1_leases, .ref a_p1_past])), (a_p1_purses, .inl (G.2.1, 4, .inl v_p1_purses)), (a_this_purses, .inl (G.2.1, 4, .inl y9)), (a_this_leases, .inr (6, [.int v_leases_most, .ref a_this_leases_parts, .int w10])), (a_p1_leases, .inr (6, [.int v_p1_leases_most, .ref a_p1_leases_parts, .int v_p1_leases_size])), (a_this_leases_parts, .inl (G.2.1, 50, .inl w11)), (a_p1_leases_parts, .inl (G.2.1, 50, .inl v_p1_leases_parts))]) (ws2 := [(a_this, .inr (0, [.int v_p1_night, .int v_p1_lot, .ref a_this_purses, .ref a_this_leases, .ref a_this_past])), (a_p1, .inr (0, [.int v_p1_night, .int v_p1_lot, .ref a_p1_purses, .ref a_p1_leases, .ref a_p1_past])), (a_p1_purses, .inl (G.2.1, 4, .inl v_p1_purses)), (a_this_purses, .inl (G.2.1, 4, .inl y9)), (a_this_leases, .inr (6, [.int v_leases_most, .ref a_this_leases_parts, .int w10])), (a_p1_leases, .inr (6, [.int v_p1_leases_most, .ref a_p1_leases_parts, .int v_p1_leases_size])), (a_this_leases_parts, .inl (G.2.1, 50, .inl w11)), (a_p1_leases_parts, .inl (G.2.1, 50, .inl v_p1_leases_parts)), (a_this_past, .inr (2, [.ref a_this_past_rows, .ref a_this_past_places])), (a_p1_past, .inr (2, [.ref a_p1_past_rows, .ref a_p1_past_places])), (a_this_past_rows, .inr (6, [.int v_past_rows_most, .ref a_this_past_rows_parts, .int w12])), (a_p1_past_rows, .inr (6, [.int v_p1_past_rows_most, .ref a_p1_past_rows_parts, .int v_p1_past_rows_size])), (a_this_past_rows_parts, .inl (G.2.1, 50, .inl w13)), (a_p1_past_rows_parts, .inl (G.2.1, 50, .inl v_p1_past_rows_parts)), (a_p1_past_places, .inl (G.2.1, 6, .inl v_p1_past_places)), (a_this_past_places, .inl (G.2.1, 6, .inl w14))]) (va_runV (As := [.ref a_p1_past]) (rest := []) hC (c_X2_become l G _ a_this_past a_p1_past a_this_past_rows a_p1_past_rows a_this_past_rows_parts a_p1_past_rows_parts a_p1_past_places a_this_past_places (v_past_rows_most) (v_past_rows_size) (v_p1_past_rows_most) (v_p1_past_rows_size) (v_past_rows_parts) (v_p1_past_rows_parts) (v_p1_past_places) (v_past_places) w12 w13 w14 hu) (cwV 1 hts gX0_become_X2_become rfl rfl rfl hd_X2_become ⟨(Nat.le_of_ble_eq_true rfl), (Nat.le_of_ble_eq_true rfl)⟩) (zPVw hE hP hD [8, 9, 10, 11, 12, 13, 14, 15] rfl rfl 8 rfl rfl) rfl rfl hl.1 rfl (lv_room (Nat.le_of_ble_eq_true rfl)) dX0_become_49 ⟨Nat.zero_le _, Nat.zero_le _⟩) hP hD hS hA [8, 9, 10, 11, 12, 13, 14, 15] [0, 1, 2, 3, 4, 5, 6, 7] [0, 1, 2, 3, 4, 5, 6, 7, 8, 9, 10, 11, 12, 13, 14, 15] rfl rfl rfl rfl (by decide) rfl rfl rfl (fun H locs hP hD hS => ?_)
  obtain ⟨hr0, hr1, hr2, hr3, hr4, hr5, hr6, hr7⟩ := so8 hf
  subst hr0
  subst hr1
  subst hr2
  subst hr3
  subst hr4
  subst hr5
  subst hr6
  subst hr7
  rw [← hQ]
  exact W.vret hx hb hr (fun t ht hW => ⟨⟨rfl, by rw [ht]; exact hP⟩, hS.F ht⟩) hS.2.2 dX0_become_52
def f_J7_fill_53178_b5   (x1 : Int32) (x3 : Int32) : Nat → Int32 → (Nat → Int32) → Option ((Nat → Int32))
  | 0, _, _ => none
  | n5 + 1, x2, v_p0 => if x3 ≤ x2 then (some (v_p0)) else (gd (inB x2 4) (nm (upd v_p0 (x2).toNatClampNeg x1) fun y6 => f_J7_fill_53178_b5 x1 x3 n5 ((x2 + (1 : Int32))) (y6)))
def f_J7_fill_53178  (v_p0 : (Nat → Int32)) (g1 : Int32) : Option ((Nat → Int32)) := f_J7_fill_53178_b5 (g1) ((4 : Int32)) zF ((0 : Int32)) (v_p0)
abbrev rm_J7_fill_53178 : Room := { frames := 0, cells := 0, slots := 0, locals := 0 }
set_option maxHeartbeats 4000000 in
set_option maxRecDepth 100000 in
theorem c_J7_fill_53178 (l : Launch) (G : zG) (sz : Nat) (a_p0 : Nat) (v_p0 : (Nat → Int32)) (g1 : Int32) (R1 : (Nat → Int32)) (hf : f_J7_fill_53178 v_p0 g1 = some R1) : Met l yJ7_fill_53178 wsJ7_fill_53178 rm_J7_fill_53178 (va_Pc [.ref a_p0, .int g1] (zB G [(a_p0, .inl (G.2.1, 4, .inl v_p0))] sz)) (zQ G none [(a_p0, .inl (G.2.1, 4, .inl R1))] (va_A [(a_p0, .inl (G.2.1, 4, .inl v_p0))] sz)) 0 0 (va_A [(a_p0, .inl (G.2.1, 4, .inl v_p0))] sz) := by
  refine Met.ofW (cc := cJ7_fill_53178) (maxL := 4) (ret := none) (by decide) rfl ?_
  intro p e s m args below meth c s₁ B hml hv
  obtain ⟨hargs, hsz, hP, hD0, hE⟩ := hv
  have hx := B.exec
  have hb := B.bytes
  have hr := B.returns
  have hts := atoms_spec (ws := wsJ7_fill_53178) B.pre
  have hown : s.vm.findClass RJ7 = some m.cls := findClass_of_methodNamed B.named
  have hlocks := B.notSynchronized
  have hK := hE.1
  have hC : CallFix p m c cJ7_fill_53178 4 s args wsJ7_fill_53178 RJ7 := ⟨hx, hb, hml, hown, hts⟩
  subst hsz
  have hD := hD0.self (sz := s.heap.size)
  generalize hAe : va_A [(a_p0, .inl (G.2.1, 4, .inl v_p0))] s.heap.size = A at hD ⊢
  have hA : ∀ q : Nat, s.heap.size ≤ q → A q := fun q h => by rw [← hAe]; exact Or.inr h
  have hS : va_S A s.heap s.heap [] := va_S.rf
  have hP : va_P G.1 vwCl [(a_p0, .inl (G.2.1, 4, .inl v_p0))] s.heap := hP
  have hl := lv_entry ([.ref a_p0, .int g1]) (n := 4) (Nat.le_of_ble_eq_true rfl)
  have hent : entryFrame m args 4 = F0 m 0 ((lg_sl ([.ref a_p0, .int g1]) ++ List.replicate (4 - (lg_sl ([.ref a_p0, .int g1])).length) Slot.unset).toArray) [] := by rw [hargs]; exact lg_entry_eq m [.ref a_p0, .int g1] 4
  refine W.eq hent ?_
  clear hent
  generalize (lg_sl ([.ref a_p0, .int g1]) ++ List.replicate (4 - (lg_sl ([.ref a_p0, .int g1])).length) Slot.unset).toArray = ls at hl ⊢
  have hl : lv_has ls 4 [(0, .ref a_p0), (1, .int g1)] := hl
  generalize hQ : MQ below _ args s 0 0 _ = QQ
  change W p l e rm_J7_fill_53178 s m args below meth c s.heap [] 0 0 QQ _
  have j5 : ∀ (x1 : Int32), ∀ (x3 : Int32), ∀ (nn : Nat), ∀ (x2 : Int32), ∀ (v_p0 : (Nat → Int32)), ∀ (ls : Array Slot), lv_has ls 4 [(0, .ref a_p0), (1, .int x1), (2, .int x2), (3, .int x3)] → ∀ (H : Heap) (locs : List Loc), va_P G.1 vwCl [(a_p0, .inl (G.2.1, 4, .inl v_p0))] H → va_D A [(a_p0, .inl (G.2.1, 4, .inl v_p0))] → va_S A s.heap H locs → f_J7_fill_53178_b5 x1 x3 nn x2 v_p0 = some R1 → W p l e rm_J7_fill_53178 s m args below meth c H locs 0 0 QQ (F0 m 5 ls []) := by
    intro x1 x3
    intro nn
    induction nn with
    | zero =>
      intro x2 v_p0 ls hl H locs hP hD hS hf
      rw [f_J7_fill_53178_b5] at hf
      cases hf
    | succ n5 ih =>
      intro x2 v_p0 ls hl H locs hP hD hS hf
      rw [f_J7_fill_53178_b5] at hf
      refine lv_iload_n hx hb dJ7_fill_53178_5 rfl (lv_at hl 2 rfl) ?_
      refine lv_iload_n hx hb dJ7_fill_53178_6 rfl (lv_at hl 3 rfl) ?_
      refine lv_icmp_ge (tgt := 20) hx hb dJ7_fill_53178_7 (by decide) (fun hc4 => ?_) (fun hc4 => ?_)
      · have hf := if_t hf hc4
        have hr0 := so1 hf
        subst hr0
        rw [← hQ]
        exact W.vret hx hb hr (fun t ht hW => ⟨⟨rfl, by rw [ht]; exact hP⟩, hS.F ht⟩) hS.2.2 dJ7_fill_53178_20
      · have hf := if_f hf hc4
        refine lv_aload_n hx hb dJ7_fill_53178_10 rfl (lv_at hl 0 rfl) ?_
        refine lv_iload_n hx hb dJ7_fill_53178_11 rfl (lv_at hl 2 rfl) ?_
        refine lv_iload_n hx hb dJ7_fill_53178_12 rfl (lv_at hl 1 rfl) ?_
        obtain ⟨hg5, hf⟩ := gd_some hf
        refine z_iast hx hb hK hP hD hS 0 0 rfl rfl (inB_in hg5) dJ7_fill_53178_13 (fun gg => [(a_p0, .inl (G.2.1, 4, .inl gg))]) (fun gg => rfl) (fun y6 H locs ey6 hP hD hS => ?_)
        have hf := nm_to hf ey6
        have hP : va_P G.1 vwCl [(a_p0, .inl (G.2.1, 4, .inl y6))] H := hP
        have hD : va_D A [(a_p0, .inl (G.2.1, 4, .inl y6))] := hD
        refine lv_iinc (v := (x2 + (1 : Int32))) (lv' := [(2, .int (x2 + (1 : Int32))), (0, .ref a_p0), (1, .int x1), (3, .int x3)]) hx hb dJ7_fill_53178_14 hl (k := 2) rfl rfl (by decide) rfl (fun ls hl => ?_)
        refine lv_goto (tgt := 5) hx hb dJ7_fill_53178_17 (by decide) ?_
        exact ih ((x2 + (1 : Int32))) (y6) ls (lv_sub hl [1, 2, 0, 3] rfl) _ _ hP hD hS hf
  have hSH := hS
  unfold f_J7_fill_53178 at hf
  refine lv_iconst (v := (0 : Int32)) hx hb dJ7_fill_53178_0 (by decide) ?_
  refine lv_istore_n (lv' := [(2, .int (0 : Int32)), (0, .ref a_p0), (1, .int g1)]) hx hb dJ7_fill_53178_1 rfl hl (by decide) rfl (fun ls hl => ?_)
  refine lv_aload_n hx hb dJ7_fill_53178_2 rfl (lv_at hl 1 rfl) ?_
  refine va_alen hx hb hK hP 0 0 rfl rfl (v := (4 : Int32)) rfl dJ7_fill_53178_3 ?_
  refine lv_istore_n (lv' := [(3, .int (4 : Int32)), (2, .int (0 : Int32)), (0, .ref a_p0), (1, .int g1)]) hx hb dJ7_fill_53178_4 rfl hl (by decide) rfl (fun ls hl => ?_)
  exact j5 (g1) ((4 : Int32)) zF ((0 : Int32)) (v_p0) ls (lv_sub hl [2, 3, 1, 0] rfl) _ _ hP hD hS hf
