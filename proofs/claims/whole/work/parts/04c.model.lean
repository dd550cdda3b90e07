def f_X9_isStar  (v_starMany : Int32) (g1 : Int32) : Option (Int32) := bd1 (f_X9_in (g1) ((0 : Int32)) ((v_starMany - (1 : Int32)))) fun r3 => gd (bzB r3) (some (r3))
abbrev rm_X9_isStar : Room := { frames := 1, cells := 0, slots := 0, locals := 22 }
set_option maxHeartbeats 4000000 in
set_option maxRecDepth 100000 in
theorem c_X9_isStar (l : Launch) (G : zG) (a_this : Nat) (a_this_text : Nat) (a_this_stars : Nat) (a_this_purses : Nat) (a_this_leases : Nat) (a_this_s : Nat) (a_this_kept : Nat) (a_this_isKept : Nat) (a_this_offers : Nat) (a_this_seen : Nat) (v_thrown : Int32) (v_trace : Int64) (v_typed : Int32) (v_next : Int32) (v_token : Int32) (v_place : Int32) (v_value : Int32) (v_fault : Int32) (v_squares : Int32) (v_starMany : Int32) (v_tenants : Int32) (v_draftSquares : Int32) (v_draftStars : Int32) (v_draftTenants : Int32) (v_draftLeases : Int32) (v_offerMany : Int32) (v_seenMany : Int32) (g1 : Int32) (R0 : Int32) (hf : f_X9_isStar v_starMany g1 = some R0) : Met l yX9_isStar wsX9_isStar rm_X9_isStar (va_Pc [.ref a_this, .int g1] (zR G [(a_this, .inr (9, [.int v_thrown, .long v_trace, .ref a_this_text, .int v_typed, .int v_next, .int v_token, .int v_place, .int v_value, .int v_fault, .int v_squares, .ref a_this_stars, .ref a_this_purses, .ref a_this_leases, .int v_starMany, .int v_tenants, .int v_draftSquares, .int v_draftStars, .int v_draftTenants, .int v_draftLeases, .ref a_this_s, .ref a_this_kept, .ref a_this_isKept, .ref a_this_offers, .int v_offerMany, .ref a_this_seen, .int v_seenMany]))])) (zSv (some (.int R0))) 0 0 (fun _ => False) := by
  refine Met.ofW (cc := cX9_isStar) (maxL := 2) (ret := (some .boolean)) (by decide) rfl ?_
  intro p e s m args below meth c s₁ B hml hv
  obtain ⟨hargs, hP, hE⟩ := hv
  have hx := B.exec
  have hb := B.bytes
  have hr := B.returns
  have hts := atoms_spec (ws := wsX9_isStar) B.pre
  have hown : s.vm.findClass RX9 = some m.cls := findClass_of_methodNamed B.named
  have hlocks := B.notSynchronized
  have hK := hE.1
  have hC : CallFix p m c cX9_isStar 2 s args wsX9_isStar RX9 := ⟨hx, hb, hml, hown, hts⟩
  have inX9 : ∀ w ∈ wsX90, w ∈ wsX9_isStar := by decide +kernel
  have lk118 := hts (.fieldLink RX9 118 "SkyLeasesModel" "starMany" "I") (by decide +kernel)
  have hl := lv_entry ([.ref a_this, .int g1]) (n := 2) (Nat.le_of_ble_eq_true rfl)
  have hent : entryFrame m args 2 = F0 m 0 ((lg_sl ([.ref a_this, .int g1]) ++ List.replicate (2 - (lg_sl ([.ref a_this, .int g1])).length) Slot.unset).toArray) [] := by rw [hargs]; exact lg_entry_eq m [.ref a_this, .int g1] 2
  refine W.eq hent ?_
  clear hent
  generalize (lg_sl ([.ref a_this, .int g1]) ++ List.replicate (2 - (lg_sl ([.ref a_this, .int g1])).length) Slot.unset).toArray = ls at hl ⊢
  have hl : lv_has ls 2 [(0, .ref a_this), (1, .int g1)] := hl
  generalize hQ : MQ below _ args s 0 0 _ = QQ
  change W p l e rm_X9_isStar s m args below meth c s.heap [] 0 0 QQ _
  unfold f_X9_isStar at hf
  refine lv_iload_n hx hb dX9_isStar_0 rfl (lv_at hl 1 rfl) ?_
  refine lv_iconst (v := (0 : Int32)) hx hb dX9_isStar_1 (by decide) ?_
  refine lv_aload_n hx hb dX9_isStar_2 rfl (lv_at hl 0 rfl) ?_
  refine va_get (D := G.1) (ci := 9) (v := .int v_starMany) (C := RX9) (T := TX9) (N := 26) hx hb hts inX9 hown hK hP 0 rfl rfl 13 (by decide) lk118 (fun _ h9 => h9) rfl dX9_isStar_3 ?_
  refine lv_iconst (v := (1 : Int32)) hx hb dX9_isStar_6 (by decide) ?_
  refine lv_isub hx hb dX9_isStar_7 ?_
  obtain ⟨r3, hu, hf⟩ := bd1_some hf
  refine zRi (va_runS (As := [.int g1, .int (0 : Int32), .int (v_starMany - (1 : Int32))]) (rest := []) hC (c_X9_in l G (g1) ((0 : Int32)) ((v_starMany - (1 : Int32))) r3 hu) (va_cwS 3 hts gX9_isStar_X9_in rfl rfl rfl hd_X9_in.2 ⟨(Nat.le_of_ble_eq_true rfl), (Nat.le_of_ble_eq_true rfl)⟩) (zPS hE hP [] rfl) rfl rfl hl.1 rfl (lv_room (Nat.le_of_ble_eq_true rfl)) dX9_isStar_8 ⟨Nat.zero_le _, Nat.zero_le _⟩) ?_
  obtain ⟨hg4, hf⟩ := gd_some hf
  have hr0 := so1 hf
  subst hr0
  rw [← hQ]
  exact W.zret (v := r3) hx hb hr (bzB_nar hg4) (fun t ht hW => ⟨rfl, ht⟩) (fun _ h => by cases h) dX9_isStar_11
def f_X9_squareOf  (v_squares : Int32) (v_stars : (Nat → Int32)) (g1 : Int32) (g2 : Int32) : Option (Int32) := gd (inB (((3 : Int32) * g1) + (1 : Int32)) 48) (nm ((v_stars ((((3 : Int32) * g1) + (1 : Int32))).toNatClampNeg)) fun y9 => if y9 = (0 : Int32) then (gd (inB ((3 : Int32) * g1) 48) (some ((v_stars (((3 : Int32) * g1)).toNatClampNeg)))) else (gd (inB ((3 : Int32) * g1) 48) (gd (nzB y9) (gd (nzB v_squares) (some ((((v_stars (((3 : Int32) * g1)).toNatClampNeg) + (g2 / y9)) - ((v_stars (((3 : Int32) * g1)).toNatClampNeg) + (g2 / y9)) / v_squares * v_squares)))))))
abbrev rm_X9_squareOf : Room := { frames := 0, cells := 0, slots := 0, locals := 0 }
set_option maxHeartbeats 4000000 in
set_option maxRecDepth 100000 in
theorem c_X9_squareOf (l : Launch) (G : zG) (a_this : Nat) (a_this_stars : Nat) (a_this_text : Nat) (a_this_purses : Nat) (a_this_leases : Nat) (a_this_s : Nat) (a_this_kept : Nat) (a_this_isKept : Nat) (a_this_offers : Nat) (a_this_seen : Nat) (v_thrown : Int32) (v_trace : Int64) (v_typed : Int32) (v_next : Int32) (v_token : Int32) (v_place : Int32) (v_value : Int32) (v_fault : Int32) (v_squares : Int32) (v_starMany : Int32) (v_tenants : Int32) (v_draftSquares : Int32) (v_draftStars : Int32) (v_draftTenants : Int32) (v_draftLeases : Int32) (v_offerMany : Int32) (v_seenMany : Int32) (v_stars : (Nat → Int32)) (g1 : Int32) (g2 : Int32) (R0 : Int32) (hf : f_X9_squareOf v_squares v_stars g1 g2 = some R0) : Met l yX9_squareOf wsX9_squareOf rm_X9_squareOf (va_Pc [.ref a_this, .int g1, .int g2] (zR G [(a_this, .inr (9, [.int v_thrown, .long v_trace, .ref a_this_text, .int v_typed, .int v_next, .int v_token, .int v_place, .int v_value, .int v_fault, .int v_squares, .ref a_this_stars, .ref a_this_purses, .ref a_this_leases, .int v_starMany, .int v_tenants, .int v_draftSquares, .int v_draftStars, .int v_draftTenants, .int v_draftLeases, .ref a_this_s, .ref a_this_kept, .ref a_this_isKept, .ref a_this_offers, .int v_offerMany, .ref a_this_seen, .int v_seenMany])), (a_this_stars, .inl (G.2.1, 48, .inl v_stars))])) (zSv (some (.int R0))) 0 0 (fun _ => False) := by
  refine Met.ofW (cc := cX9_squareOf) (maxL := 4) (ret := (some .int)) (by decide) rfl ?_
  intro p e s m args below meth c s₁ B hml hv
  obtain ⟨hargs, hP, hE⟩ := hv
  have hx := B.exec
  have hb := B.bytes
  have hr := B.returns
  have hts := atoms_spec (ws := wsX9_squareOf) B.pre
  have hown : s.vm.findClass RX9 = some m.cls := findClass_of_methodNamed B.named
  have hlocks := B.notSynchronized
  have hK := hE.1
  have hC : CallFix p m c cX9_squareOf 4 s args wsX9_squareOf RX9 := ⟨hx, hb, hml, hown, hts⟩
  have inX9 : ∀ w ∈ wsX90, w ∈ wsX9_squareOf := by decide +kernel
  have lk13 := hts (.fieldLink RX9 13 "SkyLeasesModel" "stars" "[I") (by decide +kernel)
  have lk38 := hts (.fieldLink RX9 38 "SkyLeasesModel" "squares" "I") (by decide +kernel)
  have hl := lv_entry ([.ref a_this, .int g1, .int g2]) (n := 4) (Nat.le_of_ble_eq_true rfl)
  have hent : entryFrame m args 4 = F0 m 0 ((lg_sl ([.ref a_this, .int g1, .int g2]) ++ List.replicate (4 - (lg_sl ([.ref a_this, .int g1, .int g2])).length) Slot.unset).toArray) [] := by rw [hargs]; exact lg_entry_eq m [.ref a_this, .int g1, .int g2] 4
  refine W.eq hent ?_
  clear hent
  generalize (lg_sl ([.ref a_this, .int g1, .int g2]) ++ List.replicate (4 - (lg_sl ([.ref a_this, .int g1, .int g2])).length) Slot.unset).toArray = ls at hl ⊢
  have hl : lv_has ls 4 [(0, .ref a_this), (1, .int g1), (2, .int g2)] := hl
  generalize hQ : MQ below _ args s 0 0 _ = QQ
  change W p l e rm_X9_squareOf s m args below meth c s.heap [] 0 0 QQ _
  unfold f_X9_squareOf at hf
  refine lv_aload_n hx hb dX9_squareOf_0 rfl (lv_at hl 0 rfl) ?_
  refine va_get (D := G.1) (ci := 9) (v := .ref a_this_stars) (C := RX9) (T := TX9) (N := 26) hx hb hts inX9 hown hK hP 0 rfl rfl 10 (by decide) lk13 (fun _ h9 => h9) rfl dX9_squareOf_1 ?_
  refine lv_iconst (v := (3 : Int32)) hx hb dX9_squareOf_4 (by decide) ?_
  refine lv_iload_n hx hb dX9_squareOf_5 rfl (lv_at hl 1 rfl) ?_
  refine lv_imul hx hb dX9_squareOf_6 ?_
  refine lv_iconst (v := (1 : Int32)) hx hb dX9_squareOf_7 (by decide) ?_
  refine lv_iadd hx hb dX9_squareOf_8 ?_
  obtain ⟨hg8, hf⟩ := gd_some hf
  refine va_iald hx hb hK hP 1 0 rfl rfl (inB_in hg8) dX9_squareOf_9 ?_
  refine lv_topi (fun y9 ey9 => ?_)
  have hf := nm_to hf ey9
  refine lv_istore_n (lv' := [(3, .int y9), (0, .ref a_this), (1, .int g1), (2, .int g2)]) hx hb dX9_squareOf_10 rfl hl (by decide) rfl (fun ls hl => ?_)
  refine lv_iload_n hx hb dX9_squareOf_11 rfl (lv_at hl 0 rfl) ?_
  refine lv_if_ne (tgt := 26) hx hb dX9_squareOf_12 (by decide) (fun hc10 => ?_) (fun hc10 => ?_)
  · have hf := if_f hf hc10
    refine lv_aload_n hx hb dX9_squareOf_26 rfl (lv_at hl 1 rfl) ?_
    refine va_get (D := G.1) (ci := 9) (v := .ref a_this_stars) (C := RX9) (T := TX9) (N := 26) hx hb hts inX9 hown hK hP 0 rfl rfl 10 (by decide) lk13 (fun _ h9 => h9) rfl dX9_squareOf_27 ?_
    refine lv_iconst (v := (3 : Int32)) hx hb dX9_squareOf_30 (by decide) ?_
    refine lv_iload_n hx hb dX9_squareOf_31 rfl (lv_at hl 2 rfl) ?_
    refine lv_imul hx hb dX9_squareOf_32 ?_
    obtain ⟨hg11, hf⟩ := gd_some hf
    refine va_iald hx hb hK hP 1 0 rfl rfl (inB_in hg11) dX9_squareOf_33 ?_
    refine lv_iload_n hx hb dX9_squareOf_34 rfl (lv_at hl 3 rfl) ?_
    refine lv_iload_n hx hb dX9_squareOf_35 rfl (lv_at hl 0 rfl) ?_
    obtain ⟨hg12, hf⟩ := gd_some hf
    refine lv_idiv hx hb dX9_squareOf_36 (nzB_ne hg12) ?_
    refine lv_iadd hx hb dX9_squareOf_37 ?_
    refine lv_aload_n hx hb dX9_squareOf_38 rfl (lv_at hl 1 rfl) ?_
    refine va_get (D := G.1) (ci := 9) (v := .int v_squares) (C := RX9) (T := TX9) (N := 26) hx hb hts inX9 hown hK hP 0 rfl rfl 9 (by decide) lk38 (fun _ h9 => h9) rfl dX9_squareOf_39 ?_
    obtain ⟨hg13, hf⟩ := gd_some hf
    refine lv_irem hx hb dX9_squareOf_42 (nzB_ne hg13) ?_
    have hr0 := so1 hf
    subst hr0
    rw [← hQ]
    exact W.iret (v := (((v_stars (((3 : Int32) * g1)).toNatClampNeg) + (g2 / y9)) - ((v_stars (((3 : Int32) * g1)).toNatClampNeg) + (g2 / y9)) / v_squares * v_squares)) hx hb hr (fun t ht hW => ⟨rfl, ht⟩) (fun _ h => by cases h) dX9_squareOf_43
  · have hf := if_t hf hc10
    refine lv_aload_n hx hb dX9_squareOf_15 rfl (lv_at hl 1 rfl) ?_
    refine va_get (D := G.1) (ci := 9) (v := .ref a_this_stars) (C := RX9) (T := TX9) (N := 26) hx hb hts inX9 hown hK hP 0 rfl rfl 10 (by decide) lk13 (fun _ h9 => h9) rfl dX9_squareOf_16 ?_
    refine lv_iconst (v := (3 : Int32)) hx hb dX9_squareOf_19 (by decide) ?_
    refine lv_iload_n hx hb dX9_squareOf_20 rfl (lv_at hl 2 rfl) ?_
    refine lv_imul hx hb dX9_squareOf_21 ?_
    obtain ⟨hg14, hf⟩ := gd_some hf
    refine va_iald hx hb hK hP 1 0 rfl rfl (inB_in hg14) dX9_squareOf_22 ?_
    refine lv_goto (tgt := 43) hx hb dX9_squareOf_23 (by decide) ?_
    have hr0 := so1 hf
    subst hr0
    rw [← hQ]
    exact W.iret (v := (v_stars (((3 : Int32) * g1)).toNatClampNeg)) hx hb hr (fun t ht hW => ⟨rfl, ht⟩) (fun _ h => by cases h) dX9_squareOf_43
theorem hd_X9_isStar : yX9_isStar.cls = RX9 ∧ yX9_isStar.cls ≠ "java/lang/invoke/MethodHandle" ∧ yX9_isStar.cls ≠ "java/lang/invoke/VarHandle" ∧ (parseMethodDescriptor yX9_isStar.desc).map (fun d => d.parameters.length) = some 1 := by decide +kernel
theorem hd_X9_squareOf : yX9_squareOf.cls = RX9 ∧ yX9_squareOf.cls ≠ "java/lang/invoke/MethodHandle" ∧ yX9_squareOf.cls ≠ "java/lang/invoke/VarHandle" ∧ (parseMethodDescriptor yX9_squareOf.desc).map (fun d => d.parameters.length) = some 2 := by decide +kernel
def f_X9_star  (v_thrown : Int32) (v_squares : Int32) (v_starMany : Int32) (v_stars : (Nat → Int32)) (g1 : Int32) (g2 : Int32) : Option (Int32 × Int32) := bd1 (f_X9_isStar (v_starMany) (g1)) fun r6 => if r6 = (0 : Int32) then (some ((-1 : Int32), (0 : Int32))) else (bd1 (f_X9_in (g2) ((0 : Int32)) ((999 : Int32))) fun r8 => if r8 = (0 : Int32) then (some ((-1 : Int32), (0 : Int32))) else (bd1 (f_X9_squareOf (v_squares) (v_stars) (g1) (g2)) fun r10 => some (r10, (0 : Int32))))
abbrev rm_X9_star : Room := { frames := 2, cells := 0, slots := 0, locals := 43 }
set_option maxHeartbeats 4000000 in
set_option maxRecDepth 100000 in
theorem c_X9_star (l : Launch) (G : zG) (sz : Nat) (a_this : Nat) (a_this_stars : Nat) (a_this_text : Nat) (a_this_purses : Nat) (a_this_leases : Nat) (a_this_s : Nat) (a_this_kept : Nat) (a_this_isKept : Nat) (a_this_offers : Nat) (a_this_seen : Nat) (v_thrown : Int32) (v_trace : Int64) (v_typed : Int32) (v_next : Int32) (v_token : Int32) (v_place : Int32) (v_value : Int32) (v_fault : Int32) (v_squares : Int32) (v_starMany : Int32) (v_tenants : Int32) (v_draftSquares : Int32) (v_draftStars : Int32) (v_draftTenants : Int32) (v_draftLeases : Int32) (v_offerMany : Int32) (v_seenMany : Int32) (v_stars : (Nat → Int32)) (g1 : Int32) (g2 : Int32) (R0 : Int32) (R1 : Int32) (hf : f_X9_star v_thrown v_squares v_starMany v_stars g1 g2 = some (R0, R1)) : Met l yX9_star wsX9_star rm_X9_star (va_Pc [.ref a_this, .int g1, .int g2] (zB G [(a_this, .inr (9, [.int v_thrown, .long v_trace, .ref a_this_text, .int v_typed, .int v_next, .int v_token, .int v_place, .int v_value, .int v_fault, .int v_squares, .ref a_this_stars, .ref a_this_purses, .ref a_this_leases, .int v_starMany, .int v_tenants, .int v_draftSquares, .int v_draftStars, .int v_draftTenants, .int v_draftLeases, .ref a_this_s, .ref a_this_kept, .ref a_this_isKept, .ref a_this_offers, .int v_offerMany, .ref a_this_seen, .int v_seenMany])), (a_this_stars, .inl (G.2.1, 48, .inl v_stars))] sz)) (zQ G (some (.int R0)) [(a_this, .inr (9, [.int R1, .long v_trace, .ref a_this_text, .int v_typed, .int v_next, .int v_token, .int v_place, .int v_value, .int v_fault, .int v_squares, .ref a_this_stars, .ref a_this_purses, .ref a_this_leases, .int v_starMany, .int v_tenants, .int v_draftSquares, .int v_draftStars, .int v_draftTenants, .int v_draftLeases, .ref a_this_s, .ref a_this_kept, .ref a_this_isKept, .ref a_this_offers, .int v_offerMany, .ref a_this_seen, .int v_seenMany])), (a_this_stars, .inl (G.2.1, 48, .inl v_stars))] (va_A [(a_this, .inr (9, [.int v_thrown, .long v_trace, .ref a_this_text, .int v_typed, .int v_next, .int v_token, .int v_place, .int v_value, .int v_fault, .int v_squares, .ref a_this_stars, .ref a_this_purses, .ref a_this_leases, .int v_starMany, .int v_tenants, .int v_draftSquares, .int v_draftStars, .int v_draftTenants, .int v_draftLeases, .ref a_this_s, .ref a_this_kept, .ref a_this_isKept, .ref a_this_offers, .int v_offerMany, .ref a_this_seen, .int v_seenMany])), (a_this_stars, .inl (G.2.1, 48, .inl v_stars))] sz)) 0 0 (va_A [(a_this, .inr (9, [.int v_thrown, .long v_trace, .ref a_this_text, .int v_typed, .int v_next, .int v_token, .int v_place, .int v_value, .int v_fault, .int v_squares, .ref a_this_stars, .ref a_this_purses, .ref a_this_leases, .int v_starMany, .int v_tenants, .int v_draftSquares, .int v_draftStars, .int v_draftTenants, .int v_draftLeases, .ref a_this_s, .ref a_this_kept, .ref a_this_isKept, .ref a_this_offers, .int v_offerMany, .ref a_this_seen, .int v_seenMany])), (a_this_stars, .inl (G.2.1, 48, .inl v_stars))] sz) := by
  refine Met.ofW (cc := cX9_star) (maxL := 3) (ret := (some .int)) (by decide) rfl ?_
  intro p e s m args below meth c s₁ B hml hv
  obtain ⟨hargs, hsz, hP, hD0, hE⟩ := hv
  have hx := B.exec
  have hb := B.bytes
  have hr := B.returns
  have hts := atoms_spec (ws := wsX9_star) B.pre
  have hown : s.vm.findClass RX9 = some m.cls := findClass_of_methodNamed B.named
  have hlocks := B.notSynchronized
  have hK := hE.1
  have hC : CallFix p m c cX9_star 3 s args wsX9_star RX9 := ⟨hx, hb, hml, hown, hts⟩
  have inX9 : ∀ w ∈ wsX90, w ∈ wsX9_star := by decide +kernel
  have lk42 := hts (.fieldLink RX9 42 "SkyLeasesModel" "thrown" "I") (by decide +kernel)
  subst hsz
  have hD := hD0.self (sz := s.heap.size)
  generalize hAe : va_A [(a_this, .inr (9, [.int v_thrown, .long v_trace, .ref a_this_text, .int v_typed, .int v_next, .int v_token, .int v_place, .int v_value, .int v_fault, .int v_squares, .ref a_this_stars, .ref a_this_purses, .ref a_this_leases, .int v_starMany, .int v_tenants, .int v_draftSquares, .int v_draftStars, .int v_draftTenants, .int v_draftLeases, .ref a_this_s, .ref a_this_kept, .ref a_this_isKept, .ref a_this_offers, .int v_offerMany, .ref a_this_seen, .int v_seenMany])), (a_this_stars, .inl (G.2.1, 48, .inl v_stars))] s.heap.size = A at hD ⊢
  have hA : ∀ q : Nat, s.heap.size ≤ q → A q := fun q h => by rw [← hAe]; exact Or.inr h
  have hS : va_S A s.heap s.heap [] := va_S.rf
  have hP : va_P G.1 vwCl [(a_this, .inr (9, [.int v_thrown, .long v_trace, .ref a_this_text, .int v_typed, .int v_next, .int v_token, .int v_place, .int v_value, .int v_fault, .int v_squares, .ref a_this_stars, .ref a_this_purses, .ref a_this_leases, .int v_starMany, .int v_tenants, .int v_draftSquares, .int v_draftStars, .int v_draftTenants, .int v_draftLeases, .ref a_this_s, .ref a_this_kept, .ref a_this_isKept, .ref a_this_offers, .int v_offerMany, .ref a_this_seen, .int v_seenMany])), (a_this_stars, .inl (G.2.1, 48, .inl v_stars))] s.heap := hP
  have hl := lv_entry ([.ref a_this, .int g1, .int g2]) (n := 3) (Nat.le_of_ble_eq_true rfl)
  have hent : entryFrame m args 3 = F0 m 0 ((lg_sl ([.ref a_this, .int g1, .int g2]) ++ List.replicate (3 - (lg_sl ([.ref a_this, .int g1, .int g2])).length) Slot.unset).toArray) [] := by rw [hargs]; exact lg_entry_eq m [.ref a_this, .int g1, .int g2] 3
  refine W.eq hent ?_
  clear hent
  generalize (lg_sl ([.ref a_this, .int g1, .int g2]) ++ List.replicate (3 - (lg_sl ([.ref a_this, .int g1, .int g2])).length) Slot.unset).toArray = ls at hl ⊢
  have hl : lv_has ls 3 [(0, .ref a_this), (1, .int g1), (2, .int g2)] := hl
  generalize hQ : MQ below _ args s 0 0 _ = QQ
  change W p l e rm_X9_star s m args below meth c s.heap [] 0 0 QQ _
  have hSH := hS
  unfold f_X9_star at hf
  refine lv_aload_n hx hb dX9_star_0 rfl (lv_at hl 0 rfl) ?_
  refine lv_iconst (v := (0 : Int32)) hx hb dX9_star_1 (by decide) ?_
  refine va_put (D := G.1) (ci := 9) (v := .int (0 : Int32)) (ty := .int) (C := RX9) (T := TX9) (N := 26) hx hb hts inX9 tyX9 tyX9_ok nmX9 hown hK hP hD hS 0 rfl rfl 0 (by decide) lk42 (fun _ h9 => h9) rfl (by decide +kernel) rfl rfl (Nat.le_of_ble_eq_true rfl) dX9_star_2 (fun H locs hP hD hS => ?_)
  have hP : va_P G.1 vwCl [(a_this, .inr (9, [.int (0 : Int32), .long v_trace, .ref a_this_text, .int v_typed, .int v_next, .int v_token, .int v_place, .int v_value, .int v_fault, .int v_squares, .ref a_this_stars, .ref a_this_purses, .ref a_this_leases, .int v_starMany, .int v_tenants, .int v_draftSquares, .int v_draftStars, .int v_draftTenants, .int v_draftLeases, .ref a_this_s, .ref a_this_kept, .ref a_this_isKept, .ref a_this_offers, .int v_offerMany, .ref a_this_seen, .int v_seenMany])), (a_this_stars, .inl (G.2.1, 48, .inl v_stars))] H := hP
  have hD : va_D A [(a_this, .inr (9, [.int (0 : Int32), .long v_trace, .ref a_this_text, .int v_typed, .int v_next, .int v_token, .int v_place, .int v_value, .int v_fault, .int v_squares, .ref a_this_stars, .ref a_this_purses, .ref a_this_leases, .int v_starMany, .int v_tenants, .int v_draftSquares, .int v_draftStars, .int v_draftTenants, .int v_draftLeases, .ref a_this_s, .ref a_this_kept, .ref a_this_isKept, .ref a_this_offers, .int v_offerMany, .ref a_this_seen, .int v_seenMany])), (a_this_stars, .inl (G.2.1, 48, .inl v_stars))] := hD
  refine lv_aload_n hx hb dX9_star_5 rfl (lv_at hl 0 rfl) ?_
  refine lv_iload_n hx hb dX9_star_6 rfl (lv_at hl 1 rfl) ?_
  obtain ⟨r6, hu, hf⟩ := bd1_some hf
  refine zRi (va_runV (As := [.int g1]) (rest := []) hC (c_X9_isStar l G a_this a_this_text a_this_stars a_this_purses a_this_leases a_this_s a_this_kept a_this_isKept a_this_offers a_this_seen ((0 : Int32)) (v_trace) (v_typed) (v_next) (v_token) (v_place) (v_value) (v_fault) (v_squares) (v_starMany) (v_tenants) (v_draftSquares) (v_draftStars) (v_draftTenants) (v_draftLeases) (v_offerMany) (v_seenMany) (g1) r6 hu) (cwV 1 hts gX9_star_X9_isStar rfl rfl rfl hd_X9_isStar ⟨(Nat.le_of_ble_eq_true rfl), (Nat.le_of_ble_eq_true rfl)⟩) (zPV hE hP [0] rfl 0 rfl rfl) rfl rfl hl.1 rfl (lv_room (Nat.le_of_ble_eq_true rfl)) dX9_star_7 ⟨Nat.zero_le _, Nat.zero_le _⟩) ?_
  refine lv_if_eq (tgt := 33) hx hb dX9_star_10 (by decide) (fun hc7 => ?_) (fun hc7 => ?_)
  · have hf := if_t hf hc7
    refine lv_iconst (v := (-1 : Int32)) hx hb dX9_star_33 (by decide) ?_
    obtain ⟨hr0, hr1⟩ := so2 hf
    subst hr0
    subst hr1
    rw [← hQ]
    exact W.iret (v := (-1 : Int32)) hx hb hr (fun t ht hW => ⟨⟨rfl, by rw [ht]; exact hP⟩, hS.F ht⟩) hS.2.2 dX9_star_34
  · have hf := if_f hf hc7
    refine lv_iload_n hx hb dX9_star_13 rfl (lv_at hl 2 rfl) ?_
    refine lv_iconst (v := (0 : Int32)) hx hb dX9_star_14 (by decide) ?_
    refine lv_sipush (v := (999 : Int32)) hx hb dX9_star_15 (by decide) ?_
    obtain ⟨r8, hu, hf⟩ := bd1_some hf
    refine zRi (va_runS (As := [.int g2, .int (0 : Int32), .int (999 : Int32)]) (rest := []) hC (c_X9_in l G (g2) ((0 : Int32)) ((999 : Int32)) r8 hu) (va_cwS 3 hts gX9_star_X9_in rfl rfl rfl hd_X9_in.2 ⟨(Nat.le_of_ble_eq_true rfl), (Nat.le_of_ble_eq_true rfl)⟩) (zPS hE hP [] rfl) rfl rfl hl.1 rfl (lv_room (Nat.le_of_ble_eq_true rfl)) dX9_star_18 ⟨Nat.zero_le _, Nat.zero_le _⟩) ?_
    refine lv_if_eq (tgt := 33) hx hb dX9_star_21 (by decide) (fun hc9 => ?_) (fun hc9 => ?_)
    · have hf := if_t hf hc9
      refine lv_iconst (v := (-1 : Int32)) hx hb dX9_star_33 (by decide) ?_
      obtain ⟨hr0, hr1⟩ := so2 hf
      subst hr0
      subst hr1
      rw [← hQ]
      exact W.iret (v := (-1 : Int32)) hx hb hr (fun t ht hW => ⟨⟨rfl, by rw [ht]; exact hP⟩, hS.F ht⟩) hS.2.2 dX9_star_34
    · have hf := if_f hf hc9
      refine lv_aload_n hx hb dX9_star_24 rfl (lv_at hl 0 rfl) ?_
      refine lv_iload_n hx hb dX9_star_25 rfl (lv_at hl 1 rfl) ?_
      refine lv_iload_n hx hb dX9_star_26 rfl (lv_at hl 2 rfl) ?_
      obtain ⟨r10, hu, hf⟩ := bd1_some hf
      refine zRi (va_runV (As := [.int g1, .int g2]) (rest := []) hC (c_X9_squareOf l G a_this a_this_stars a_this_text a_this_purses a_this_leases a_this_s a_this_kept a_this_isKept a_this_offers a_this_seen ((0 : Int32)) (v_trace) (v_typed) (v_next) (v_token) (v_place) (v_value) (v_fault) (v_squares) (v_starMany) (v_tenants) (v_draftSquares) (v_draftStars) (v_draftTenants) (v_draftLeases) (v_offerMany) (v_seenMany) (v_stars) (g1) (g2) r10 hu) (cwV 2 hts gX9_star_X9_squareOf rfl rfl rfl hd_X9_squareOf ⟨(Nat.le_of_ble_eq_true rfl), (Nat.le_of_ble_eq_true rfl)⟩) (zPV hE hP [0, 1] rfl 0 rfl rfl) rfl rfl hl.1 rfl (lv_room (Nat.le_of_ble_eq_true rfl)) dX9_star_27 ⟨Nat.zero_le _, Nat.zero_le _⟩) ?_
      refine lv_goto (tgt := 34) hx hb dX9_star_30 (by decide) ?_
      obtain ⟨hr0, hr1⟩ := so2 hf
      subst hr0
      subst hr1
      rw [← hQ]
      exact W.iret (v := r10) hx hb hr (fun t ht hW => ⟨⟨rfl, by rw [ht]; exact hP⟩, hS.F ht⟩) hS.2.2 dX9_star_34
def f_X9_lease  (v_thrown : Int32) (v_s : (Nat → Int32)) (g1 : Int32) (g2 : Int32) : Option (Int32 × Int32) := gd (inB (6 : Int32) 100) (bd1 (f_X9_in (g1) ((0 : Int32)) (((v_s ((6 : Int32)).toNatClampNeg) - (1 : Int32)))) fun r8 => if r8 = (0 : Int32) then (some ((-1 : Int32), (0 : Int32))) else (bd1 (f_X9_in (g2) ((0 : Int32)) ((4 : Int32))) fun r10 => if r10 = (0 : Int32) then (some ((-1 : Int32), (0 : Int32))) else (gd (inB (((7 : Int32) + ((5 : Int32) * g1)) + g2) 100) (some ((v_s ((((7 : Int32) + ((5 : Int32) * g1)) + g2)).toNatClampNeg), (0 : Int32))))))
abbrev rm_X9_lease : Room := { frames := 1, cells := 0, slots := 0, locals := 22 }
set_option maxHeartbeats 4000000 in
set_option maxRecDepth 100000 in
theorem c_X9_lease (l : Launch) (G : zG) (sz : Nat) (a_this : Nat) (a_this_s : Nat) (a_this_text : Nat) (a_this_stars : Nat) (a_this_purses : Nat) (a_this_leases : Nat) (a_this_kept : Nat) (a_this_isKept : Nat) (a_this_offers : Nat) (a_this_seen : Nat) (v_thrown : Int32) (v_trace : Int64) (v_typed : Int32) (v_next : Int32) (v_token : Int32) (v_place : Int32) (v_value : Int32) (v_fault : Int32) (v_squares : Int32) (v_starMany : Int32) (v_tenants : Int32) (v_draftSquares : Int32) (v_draftStars : Int32) (v_draftTenants : Int32) (v_draftLeases : Int32) (v_offerMany : Int32) (v_seenMany : Int32) (v_s : (Nat → Int32)) (g1 : Int32) (g2 : Int32) (R0 : Int32) (R1 : Int32) (hf : f_X9_lease v_thrown v_s g1 g2 = some (R0, R1)) : Met l yX9_lease wsX9_lease rm_X9_lease (va_Pc [.ref a_this, .int g1, .int g2] (zB G [(a_this, .inr (9, [.int v_thrown, .long v_trace, .ref a_this_text, .int v_typed, .int v_next, .int v_token, .int v_place, .int v_value, .int v_fault, .int v_squares, .ref a_this_stars, .ref a_this_purses, .ref a_this_leases, .int v_starMany, .int v_tenants, .int v_draftSquares, .int v_draftStars, .int v_draftTenants, .int v_draftLeases, .ref a_this_s, .ref a_this_kept, .ref a_this_isKept, .ref a_this_offers, .int v_offerMany, .ref a_this_seen, .int v_seenMany])), (a_this_s, .inl (G.2.1, 100, .inl v_s))] sz)) (zQ G (some (.int R0)) [(a_this, .inr (9, [.int R1, .long v_trace, .ref a_this_text, .int v_typed, .int v_next, .int v_token, .int v_place, .int v_value, .int v_fault, .int v_squares, .ref a_this_stars, .ref a_this_purses, .ref a_this_leases, .int v_starMany, .int v_tenants, .int v_draftSquares, .int v_draftStars, .int v_draftTenants, .int v_draftLeases, .ref a_this_s, .ref a_this_kept, .ref a_this_isKept, .ref a_this_offers, .int v_offerMany, .ref a_this_seen, .int v_seenMany])), (a_this_s, .inl (G.2.1, 100, .inl v_s))] (va_A [(a_this, .inr (9, [.int v_thrown, .long v_trace, .ref a_this_text, .int v_typed, .int v_next, .int v_token, .int v_place, .int v_value, .int v_fault, .int v_squares, .ref a_this_stars, .ref a_this_purses, .ref a_this_leases, .int v_starMany, .int v_tenants, .int v_draftSquares, .int v_draftStars, .int v_draftTenants, .int v_draftLeases, .ref a_this_s, .ref a_this_kept, .ref a_this_isKept, .ref a_this_offers, .int v_offerMany, .ref a_this_seen, .int v_seenMany])), (a_this_s, .inl (G.2.1, 100, .inl v_s))] sz)) 0 0 (va_A [(a_this, .inr (9, [.int v_thrown, .long v_trace, .ref a_this_text, .int v_typed, .int v_next, .int v_token, .int v_place, .int v_value, .int v_fault, .int v_squares, .ref a_this_stars, .ref a_this_purses, .ref a_this_leases, .int v_starMany, .int v_tenants, .int v_draftSquares, .int v_draftStars, .int v_draftTenants, .int v_draftLeases, .ref a_this_s, .ref a_this_kept, .ref a_this_isKept, .ref a_this_offers, .int v_offerMany, .ref a_this_seen, .int v_seenMany])), (a_this_s, .inl (G.2.1, 100, .inl v_s))] sz) := by
  refine Met.ofW (cc := cX9_lease) (maxL := 3) (ret := (some .int)) (by decide) rfl ?_
  intro p e s m args below meth c s₁ B hml hv
  obtain ⟨hargs, hsz, hP, hD0, hE⟩ := hv
  have hx := B.exec
  have hb := B.bytes
  have hr := B.returns
  have hts := atoms_spec (ws := wsX9_lease) B.pre
  have hown : s.vm.findClass RX9 = some m.cls := findClass_of_methodNamed B.named
  have hlocks := B.notSynchronized
  have hK := hE.1
  have hC : CallFix p m c cX9_lease 3 s args wsX9_lease RX9 := ⟨hx, hb, hml, hown, hts⟩
  have inX9 : ∀ w ∈ wsX90, w ∈ wsX9_lease := by decide +kernel
  have lk22 := hts (.fieldLink RX9 22 "SkyLeasesModel" "s" "[I") (by decide +kernel)
  have lk42 := hts (.fieldLink RX9 42 "SkyLeasesModel" "thrown" "I") (by decide +kernel)
  subst hsz
  have hD := hD0.self (sz := s.heap.size)
  generalize hAe : va_A [(a_this, .inr (9, [.int v_thrown, .long v_trace, .ref a_this_text, .int v_typed, .int v_next, .int v_token, .int v_place, .int v_value, .int v_fault, .int v_squares, .ref a_this_stars, .ref a_this_purses, .ref a_this_leases, .int v_starMany, .int v_tenants, .int v_draftSquares, .int v_draftStars, .int v_draftTenants, .int v_draftLeases, .ref a_this_s, .ref a_this_kept, .ref a_this_isKept, .ref a_this_offers, .int v_offerMany, .ref a_this_seen, .int v_seenMany])), (a_this_s, .inl (G.2.1, 100, .inl v_s))] s.heap.size = A at hD ⊢
  have hA : ∀ q : Nat, s.heap.size ≤ q → A q := fun q h => by rw [← hAe]; exact Or.inr h
  have hS : va_S A s.heap s.heap [] := va_S.rf
  have hP : va_P G.1 vwCl [(a_this, .inr (9, [.int v_thrown, .long v_trace, .ref a_this_text, .int v_typed, .int v_next, .int v_token, .int v_place, .int v_value, .int v_fault, .int v_squares, .ref a_this_stars, .ref a_this_purses, .ref a_this_leases, .int v_starMany, .int v_tenants, .int v_draftSquares, .int v_draftStars, .int v_draftTenants, .int v_draftLeases, .ref a_this_s, .ref a_this_kept, .ref a_this_isKept, .ref a_this_offers, .int v_offerMany, .ref a_this_seen, .int v_seenMany])), (a_this_s, .inl (G.2.1, 100, .inl v_s))] s.heap := hP
  have hl := lv_entry ([.ref a_this, .int g1, .int g2]) (n := 3) (Nat.le_of_ble_eq_true rfl)
  have hent : entryFrame m args 3 = F0 m 0 ((lg_sl ([.ref a_this, .int g1, .int g2]) ++ List.replicate (3 - (lg_sl ([.ref a_this, .int g1, .int g2])).length) Slot.unset).toArray) [] := by rw [hargs]; exact lg_entry_eq m [.ref a_this, .int g1, .int g2] 3
  refine W.eq hent ?_
  clear hent
  generalize (lg_sl ([.ref a_this, .int g1, .int g2]) ++ List.replicate (3 - (lg_sl ([.ref a_this, .int g1, .int g2])).length) Slot.unset).toArray = ls at hl ⊢
  have hl : lv_has ls 3 [(0, .ref a_this), (1, .int g1), (2, .int g2)] := hl
  generalize hQ : MQ below _ args s 0 0 _ = QQ
  change W p l e rm_X9_lease s m args below meth c s.heap [] 0 0 QQ _
  have hSH := hS
  unfold f_X9_lease at hf
  refine lv_aload_n hx hb dX9_lease_0 rfl (lv_at hl 0 rfl) ?_
  refine lv_iconst (v := (0 : Int32)) hx hb dX9_lease_1 (by decide) ?_
  refine va_put (D := G.1) (ci := 9) (v := .int (0 : Int32)) (ty := .int) (C := RX9) (T := TX9) (N := 26) hx hb hts inX9 tyX9 tyX9_ok nmX9 hown hK hP hD hS 0 rfl rfl 0 (by decide) lk42 (fun _ h9 => h9) rfl (by decide +kernel) rfl rfl (Nat.le_of_ble_eq_true rfl) dX9_lease_2 (fun H locs hP hD hS => ?_)
  have hP : va_P G.1 vwCl [(a_this, .inr (9, [.int (0 : Int32), .long v_trace, .ref a_this_text, .int v_typed, .int v_next, .int v_token, .int v_place, .int v_value, .int v_fault, .int v_squares, .ref a_this_stars, .ref a_this_purses, .ref a_this_leases, .int v_starMany, .int v_tenants, .int v_draftSquares, .int v_draftStars, .int v_draftTenants, .int v_draftLeases, .ref a_this_s, .ref a_this_kept, .ref a_this_isKept, .ref a_this_offers, .int v_offerMany, .ref a_this_seen, .int v_seenMany])), (a_this_s, .inl (G.2.1, 100, .inl v_s))] H := hP
  have hD : va_D A [(a_this, .inr (9, [.int (0 : Int32), .long v_trace, .ref a_this_text, .int v_typed, .int v_next, .int v_token, .int v_place, .int v_value, .int v_fault, .int v_squares, .ref a_this_stars, .ref a_this_purses, .ref a_this_leases, .int v_starMany, .int v_tenants, .int v_draftSquares, .int v_draftStars, .int v_draftTenants, .int v_draftLeases, .ref a_this_s, .ref a_this_kept, .ref a_this_isKept, .ref a_this_offers, .int v_offerMany, .ref a_this_seen, .int v_seenMany])), (a_this_s, .inl (G.2.1, 100, .inl v_s))] := hD
  refine lv_iload_n hx hb dX9_lease_5 rfl (lv_at hl 1 rfl) ?_
  refine lv_iconst (v := (0 : Int32)) hx hb dX9_lease_6 (by decide) ?_
  refine lv_aload_n hx hb dX9_lease_7 rfl (lv_at hl 0 rfl) ?_
  refine va_get (D := G.1) (ci := 9) (v := .ref a_this_s) (C := RX9) (T := TX9) (N := 26) hx hb hts inX9 hown hK hP 0 rfl rfl 19 (by decide) lk22 (fun _ h9 => h9) rfl dX9_lease_8 ?_
  refine lv_bipush (v := (6 : Int32)) hx hb dX9_lease_11 (by decide) ?_
  obtain ⟨hg7, hf⟩ := gd_some hf
  refine va_iald hx hb hK hP 1 0 rfl rfl (inB_in hg7) dX9_lease_13 ?_
  refine lv_iconst (v := (1 : Int32)) hx hb dX9_lease_14 (by decide) ?_
  refine lv_isub hx hb dX9_lease_15 ?_
  obtain ⟨r8, hu, hf⟩ := bd1_some hf
  refine zRi (va_runS (As := [.int g1, .int (0 : Int32), .int ((v_s ((6 : Int32)).toNatClampNeg) - (1 : Int32))]) (rest := []) hC (c_X9_in l G (g1) ((0 : Int32)) (((v_s ((6 : Int32)).toNatClampNeg) - (1 : Int32))) r8 hu) (va_cwS 3 hts gX9_lease_X9_in rfl rfl rfl hd_X9_in.2 ⟨(Nat.le_of_ble_eq_true rfl), (Nat.le_of_ble_eq_true rfl)⟩) (zPS hE hP [] rfl) rfl rfl hl.1 rfl (lv_room (Nat.le_of_ble_eq_true rfl)) dX9_lease_16 ⟨Nat.zero_le _, Nat.zero_le _⟩) ?_
  refine lv_if_eq (tgt := 47) hx hb dX9_lease_19 (by decide) (fun hc9 => ?_) (fun hc9 => ?_)
  · have hf := if_t hf hc9
    refine lv_iconst (v := (-1 : Int32)) hx hb dX9_lease_47 (by decide) ?_
    obtain ⟨hr0, hr1⟩ := so2 hf
    subst hr0
    subst hr1
    rw [← hQ]
    exact W.iret (v := (-1 : Int32)) hx hb hr (fun t ht hW => ⟨⟨rfl, by rw [ht]; exact hP⟩, hS.F ht⟩) hS.2.2 dX9_lease_48
  · have hf := if_f hf hc9
    refine lv_iload_n hx hb dX9_lease_22 rfl (lv_at hl 2 rfl) ?_
    refine lv_iconst (v := (0 : Int32)) hx hb dX9_lease_23 (by decide) ?_
    refine lv_iconst (v := (4 : Int32)) hx hb dX9_lease_24 (by decide) ?_
    obtain ⟨r10, hu, hf⟩ := bd1_some hf
    refine zRi (va_runS (As := [.int g2, .int (0 : Int32), .int (4 : Int32)]) (rest := []) hC (c_X9_in l G (g2) ((0 : Int32)) ((4 : Int32)) r10 hu) (va_cwS 3 hts gX9_lease_X9_in rfl rfl rfl hd_X9_in.2 ⟨(Nat.le_of_ble_eq_true rfl), (Nat.le_of_ble_eq_true rfl)⟩) (zPS hE hP [] rfl) rfl rfl hl.1 rfl (lv_room (Nat.le_of_ble_eq_true rfl)) dX9_lease_25 ⟨Nat.zero_le _, Nat.zero_le _⟩) ?_
    refine lv_if_eq (tgt := 47) hx hb dX9_lease_28 (by decide) (fun hc11 => ?_) (fun hc11 => ?_)
    · have hf := if_t hf hc11
      refine lv_iconst (v := (-1 : Int32)) hx hb dX9_lease_47 (by decide) ?_
      obtain ⟨hr0, hr1⟩ := so2 hf
      subst hr0
      subst hr1
      rw [← hQ]
      exact W.iret (v := (-1 : Int32)) hx hb hr (fun t ht hW => ⟨⟨rfl, by rw [ht]; exact hP⟩, hS.F ht⟩) hS.2.2 dX9_lease_48
    · have hf := if_f hf hc11
      refine lv_aload_n hx hb dX9_lease_31 rfl (lv_at hl 0 rfl) ?_
      refine va_get (D := G.1) (ci := 9) (v := .ref a_this_s) (C := RX9) (T := TX9) (N := 26) hx hb hts inX9 hown hK hP 0 rfl rfl 19 (by decide) lk22 (fun _ h9 => h9) rfl dX9_lease_32 ?_
      refine lv_bipush (v := (7 : Int32)) hx hb dX9_lease_35 (by decide) ?_
      refine lv_iconst (v := (5 : Int32)) hx hb dX9_lease_37 (by decide) ?_
      refine lv_iload_n hx hb dX9_lease_38 rfl (lv_at hl 1 rfl) ?_
      refine lv_imul hx hb dX9_lease_39 ?_
      refine lv_iadd hx hb dX9_lease_40 ?_
      refine lv_iload_n hx hb dX9_lease_41 rfl (lv_at hl 2 rfl) ?_
      refine lv_iadd hx hb dX9_lease_42 ?_
      obtain ⟨hg12, hf⟩ := gd_some hf
      refine va_iald hx hb hK hP 1 0 rfl rfl (inB_in hg12) dX9_lease_43 ?_
      refine lv_goto (tgt := 48) hx hb dX9_lease_44 (by decide) ?_
      obtain ⟨hr0, hr1⟩ := so2 hf
      subst hr0
      subst hr1
      rw [← hQ]
      exact W.iret (v := (v_s ((((7 : Int32) + ((5 : Int32) * g1)) + g2)).toNatClampNeg)) hx hb hr (fun t ht hW => ⟨⟨rfl, by rw [ht]; exact hP⟩, hS.F ht⟩) hS.2.2 dX9_lease_48
def f_X9_isSquare  (v_squares : Int32) (g1 : Int32) : Option (Int32) := bd1 (f_X9_in (g1) ((0 : Int32)) ((v_squares - (1 : Int32)))) fun r3 => gd (bzB r3) (some (r3))
abbrev rm_X9_isSquare : Room := { frames := 1, cells := 0, slots := 0, locals := 22 }
set_option maxHeartbeats 4000000 in
set_option maxRecDepth 100000 in
theorem c_X9_isSquare (l : Launch) (G : zG) (a_this : Nat) (a_this_text : Nat) (a_this_stars : Nat) (a_this_purses : Nat) (a_this_leases : Nat) (a_this_s : Nat) (a_this_kept : Nat) (a_this_isKept : Nat) (a_this_offers : Nat) (a_this_seen : Nat) (v_thrown : Int32) (v_trace : Int64) (v_typed : Int32) (v_next : Int32) (v_token : Int32) (v_place : Int32) (v_value : Int32) (v_fault : Int32) (v_squares : Int32) (v_starMany : Int32) (v_tenants : Int32) (v_draftSquares : Int32) (v_draftStars : Int32) (v_draftTenants : Int32) (v_draftLeases : Int32) (v_offerMany : Int32) (v_seenMany : Int32) (g1 : Int32) (R0 : Int32) (hf : f_X9_isSquare v_squares g1 = some R0) : Met l yX9_isSquare wsX9_isSquare rm_X9_isSquare (va_Pc [.ref a_this, .int g1] (zR G [(a_this, .inr (9, [.int v_thrown, .long v_trace, .ref a_this_text, .int v_typed, .int v_next, .int v_token, .int v_place, .int v_value, .int v_fault, .int v_squares, .ref a_this_stars, .ref a_this_purses, .ref a_this_leases, .int v_starMany, .int v_tenants, .int v_draftSquares, .int v_draftStars, .int v_draftTenants, .int v_draftLeases, .ref a_this_s, .ref a_this_kept, .ref a_this_isKept, .ref a_this_offers, .int v_offerMany, .ref a_this_seen, .int v_seenMany]))])) (zSv (some (.int R0))) 0 0 (fun _ => False) := by
  refine Met.ofW (cc := cX9_isSquare) (maxL := 2) (ret := (some .boolean)) (by decide) rfl ?_
  intro p e s m args below meth c s₁ B hml hv
  obtain ⟨hargs, hP, hE⟩ := hv
  have hx := B.exec
  have hb := B.bytes
  have hr := B.returns
  have hts := atoms_spec (ws := wsX9_isSquare) B.pre
  have hown : s.vm.findClass RX9 = some m.cls := findClass_of_methodNamed B.named
  have hlocks := B.notSynchronized
  have hK := hE.1
  have hC : CallFix p m c cX9_isSquare 2 s args wsX9_isSquare RX9 := ⟨hx, hb, hml, hown, hts⟩
  have inX9 : ∀ w ∈ wsX90, w ∈ wsX9_isSquare := by decide +kernel
  have lk38 := hts (.fieldLink RX9 38 "SkyLeasesModel" "squares" "I") (by decide +kernel)
  have hl := lv_entry ([.ref a_this, .int g1]) (n := 2) (Nat.le_of_ble_eq_true rfl)
  have hent : entryFrame m args 2 = F0 m 0 ((lg_sl ([.ref a_this, .int g1]) ++ List.replicate (2 - (lg_sl ([.ref a_this, .int g1])).length) Slot.unset).toArray) [] := by rw [hargs]; exact lg_entry_eq m [.ref a_this, .int g1] 2
  refine W.eq hent ?_
  clear hent
  generalize (lg_sl ([.ref a_this, .int g1]) ++ List.replicate (2 - (lg_sl ([.ref a_this, .int g1])).length) Slot.unset).toArray = ls at hl ⊢
  have hl : lv_has ls 2 [(0, .ref a_this), (1, .int g1)] := hl
  generalize hQ : MQ below _ args s 0 0 _ = QQ
  change W p l e rm_X9_isSquare s m args below meth c s.heap [] 0 0 QQ _
  unfold f_X9_isSquare at hf
  refine lv_iload_n hx hb dX9_isSquare_0 rfl (lv_at hl 1 rfl) ?_
  refine lv_iconst (v := (0 : Int32)) hx hb dX9_isSquare_1 (by decide) ?_
  refine lv_aload_n hx hb dX9_isSquare_2 rfl (lv_at hl 0 rfl) ?_
  refine va_get (D := G.1) (ci := 9) (v := .int v_squares) (C := RX9) (T := TX9) (N := 26) hx hb hts inX9 hown hK hP 0 rfl rfl 9 (by decide) lk38 (fun _ h9 => h9) rfl dX9_isSquare_3 ?_
  refine lv_iconst (v := (1 : Int32)) hx hb dX9_isSquare_6 (by decide) ?_
  refine lv_isub hx hb dX9_isSquare_7 ?_
  obtain ⟨r3, hu, hf⟩ := bd1_some hf
  refine zRi (va_runS (As := [.int g1, .int (0 : Int32), .int (v_squares - (1 : Int32))]) (rest := []) hC (c_X9_in l G (g1) ((0 : Int32)) ((v_squares - (1 : Int32))) r3 hu) (va_cwS 3 hts gX9_isSquare_X9_in rfl rfl rfl hd_X9_in.2 ⟨(Nat.le_of_ble_eq_true rfl), (Nat.le_of_ble_eq_true rfl)⟩) (zPS hE hP [] rfl) rfl rfl hl.1 rfl (lv_room (Nat.le_of_ble_eq_true rfl)) dX9_isSquare_8 ⟨Nat.zero_le _, Nat.zero_le _⟩) ?_
  obtain ⟨hg4, hf⟩ := gd_some hf
  have hr0 := so1 hf
  subst hr0
  rw [← hQ]
  exact W.zret (v := r3) hx hb hr (bzB_nar hg4) (fun t ht hW => ⟨rfl, ht⟩) (fun _ h => by cases h) dX9_isSquare_11
def f_X9_isNight   (g0 : Int32) : Option (Int32) := bd1 (f_X9_in (g0) ((0 : Int32)) ((99 : Int32))) fun r3 => gd (bzB r3) (some (r3))
abbrev rm_X9_isNight : Room := { frames := 1, cells := 0, slots := 0, locals := 22 }
set_option maxHeartbeats 4000000 in
set_option maxRecDepth 100000 in
theorem c_X9_isNight (l : Launch) (G : zG) (g0 : Int32) (R0 : Int32) (hf : f_X9_isNight g0 = some R0) : Met l yX9_isNight wsX9_isNight rm_X9_isNight (va_Pc [.int g0] (zR G [])) (zSv (some (.int R0))) 0 0 (fun _ => False) := by
  refine Met.ofW (cc := cX9_isNight) (maxL := 1) (ret := (some .boolean)) (by decide) rfl ?_
  intro p e s m args below meth c s₁ B hml hv
  obtain ⟨hargs, hP, hE⟩ := hv
  have hx := B.exec
  have hb := B.bytes
  have hr := B.returns
  have hts := atoms_spec (ws := wsX9_isNight) B.pre
  have hown : s.vm.findClass RX9 = some m.cls := findClass_of_methodNamed B.named
  have hlocks := B.notSynchronized
  have hK := hE.1
  have hC : CallFix p m c cX9_isNight 1 s args wsX9_isNight RX9 := ⟨hx, hb, hml, hown, hts⟩
  have hl := lv_entry ([.int g0]) (n := 1) (Nat.le_of_ble_eq_true rfl)
  have hent : entryFrame m args 1 = F0 m 0 ((lg_sl ([.int g0]) ++ List.replicate (1 - (lg_sl ([.int g0])).length) Slot.unset).toArray) [] := by rw [hargs]; exact lg_entry_eq m [.int g0] 1
  refine W.eq hent ?_
  clear hent
  generalize (lg_sl ([.int g0]) ++ List.replicate (1 - (lg_sl ([.int g0])).length) Slot.unset).toArray = ls at hl ⊢
  have hl : lv_has ls 1 [(0, .int g0)] := hl
  generalize hQ : MQ below _ args s 0 0 _ = QQ
  change W p l e rm_X9_isNight s m args below meth c s.heap [] 0 0 QQ _
  unfold f_X9_isNight at hf
  refine lv_iload_n hx hb dX9_isNight_0 rfl (lv_at hl 0 rfl) ?_
  refine lv_iconst (v := (0 : Int32)) hx hb dX9_isNight_1 (by decide) ?_
  refine lv_bipush (v := (99 : Int32)) hx hb dX9_isNight_2 (by decide) ?_
  obtain ⟨r3, hu, hf⟩ := bd1_some hf
  refine zRi (va_runS (As := [.int g0, .int (0 : Int32), .int (99 : Int32)]) (rest := []) hC (c_X9_in l G (g0) ((0 : Int32)) ((99 : Int32)) r3 hu) (va_cwS 3 hts gX9_isNight_X9_in rfl rfl rfl hd_X9_in.2 ⟨(Nat.le_of_ble_eq_true rfl), (Nat.le_of_ble_eq_true rfl)⟩) (zPS hE hP [] rfl) rfl rfl hl.1 rfl (lv_room (Nat.le_of_ble_eq_true rfl)) dX9_isNight_4 ⟨Nat.zero_le _, Nat.zero_le _⟩) ?_
  obtain ⟨hg4, hf⟩ := gd_some hf
  have hr0 := so1 hf
  subst hr0
  rw [← hQ]
  exact W.zret (v := r3) hx hb hr (bzB_nar hg4) (fun t ht hW => ⟨rfl, ht⟩) (fun _ h => by cases h) dX9_isNight_7
def f_X9_hasSquare  (v_squares : Int32) (g1 : Int32) (g2 : Int32) (g3 : Int32) : Option (Int32) := gd (nzB v_squares) (if g2 ≤ (((g3 - g1) + v_squares) - ((g3 - g1) + v_squares) / v_squares * v_squares) then (some ((0 : Int32))) else (some ((1 : Int32))))
abbrev rm_X9_hasSquare : Room := { frames := 0, cells := 0, slots := 0, locals := 0 }
set_option maxHeartbeats 4000000 in
set_option maxRecDepth 100000 in
theorem c_X9_hasSquare (l : Launch) (G : zG) (a_this : Nat) (a_this_text : Nat) (a_this_stars : Nat) (a_this_purses : Nat) (a_this_leases : Nat) (a_this_s : Nat) (a_this_kept : Nat) (a_this_isKept : Nat) (a_this_offers : Nat) (a_this_seen : Nat) (v_thrown : Int32) (v_trace : Int64) (v_typed : Int32) (v_next : Int32) (v_token : Int32) (v_place : Int32) (v_value : Int32) (v_fault : Int32) (v_squares : Int32) (v_starMany : Int32) (v_tenants : Int32) (v_draftSquares : Int32) (v_draftStars : Int32) (v_draftTenants : Int32) (v_draftLeases : Int32) (v_offerMany : Int32) (v_seenMany : Int32) (g1 : Int32) (g2 : Int32) (g3 : Int32) (R0 : Int32) (hf : f_X9_hasSquare v_squares g1 g2 g3 = some R0) : Met l yX9_hasSquare wsX9_hasSquare rm_X9_hasSquare (va_Pc [.ref a_this, .int g1, .int g2, .int g3] (zR G [(a_this, .inr (9, [.int v_thrown, .long v_trace, .ref a_this_text, .int v_typed, .int v_next, .int v_token, .int v_place, .int v_value, .int v_fault, .int v_squares, .ref a_this_stars, .ref a_this_purses, .ref a_this_leases, .int v_starMany, .int v_tenants, .int v_draftSquares, .int v_draftStars, .int v_draftTenants, .int v_draftLeases, .ref a_this_s, .ref a_this_kept, .ref a_this_isKept, .ref a_this_offers, .int v_offerMany, .ref a_this_seen, .int v_seenMany]))])) (zSv (some (.int R0))) 0 0 (fun _ => False) := by
  refine Met.ofW (cc := cX9_hasSquare) (maxL := 4) (ret := (some .boolean)) (by decide) rfl ?_
  intro p e s m args below meth c s₁ B hml hv
  obtain ⟨hargs, hP, hE⟩ := hv
  have hx := B.exec
  have hb := B.bytes
  have hr := B.returns
  have hts := atoms_spec (ws := wsX9_hasSquare) B.pre
  have hown : s.vm.findClass RX9 = some m.cls := findClass_of_methodNamed B.named
  have hlocks := B.notSynchronized
  have hK := hE.1
  have hC : CallFix p m c cX9_hasSquare 4 s args wsX9_hasSquare RX9 := ⟨hx, hb, hml, hown, hts⟩
  have inX9 : ∀ w ∈ wsX90, w ∈ wsX9_hasSquare := by decide +kernel
  have lk38 := hts (.fieldLink RX9 38 "SkyLeasesModel" "squares" "I") (by decide +kernel)
  have hl := lv_entry ([.ref a_this, .int g1, .int g2, .int g3]) (n := 4) (Nat.le_of_ble_eq_true rfl)
  have hent : entryFrame m args 4 = F0 m 0 ((lg_sl ([.ref a_this, .int g1, .int g2, .int g3]) ++ List.replicate (4 - (lg_sl ([.ref a_this, .int g1, .int g2, .int g3])).length) Slot.unset).toArray) [] := by rw [hargs]; exact lg_entry_eq m [.ref a_this, .int g1, .int g2, .int g3] 4
  refine W.eq hent ?_
  clear hent
  generalize (lg_sl ([.ref a_this, .int g1, .int g2, .int g3]) ++ List.replicate (4 - (lg_sl ([.ref a_this, .int g1, .int g2, .int g3])).length) Slot.unset).toArray = ls at hl ⊢
  have hl : lv_has ls 4 [(0, .ref a_this), (1, .int g1), (2, .int g2), (3, .int g3)] := hl
  generalize hQ : MQ below _ args s 0 0 _ = QQ
  change W p l e rm_X9_hasSquare s m args below meth c s.heap [] 0 0 QQ _
  unfold f_X9_hasSquare at hf
  refine lv_iload_n hx hb dX9_hasSquare_0 rfl (lv_at hl 3 rfl) ?_
  refine lv_iload_n hx hb dX9_hasSquare_1 rfl (lv_at hl 1 rfl) ?_
  refine lv_isub hx hb dX9_hasSquare_2 ?_
  refine lv_aload_n hx hb dX9_hasSquare_3 rfl (lv_at hl 0 rfl) ?_
  refine va_get (D := G.1) (ci := 9) (v := .int v_squares) (C := RX9) (T := TX9) (N := 26) hx hb hts inX9 hown hK hP 0 rfl rfl 9 (by decide) lk38 (fun _ h9 => h9) rfl dX9_hasSquare_4 ?_
  refine lv_iadd hx hb dX9_hasSquare_7 ?_
  refine lv_aload_n hx hb dX9_hasSquare_8 rfl (lv_at hl 0 rfl) ?_
  refine va_get (D := G.1) (ci := 9) (v := .int v_squares) (C := RX9) (T := TX9) (N := 26) hx hb hts inX9 hown hK hP 0 rfl rfl 9 (by decide) lk38 (fun _ h9 => h9) rfl dX9_hasSquare_9 ?_
  obtain ⟨hg3, hf⟩ := gd_some hf
  refine lv_irem hx hb dX9_hasSquare_12 (nzB_ne hg3) ?_
  refine lv_iload_n hx hb dX9_hasSquare_13 rfl (lv_at hl 2 rfl) ?_
  refine lv_icmp_ge (tgt := 21) hx hb dX9_hasSquare_14 (by decide) (fun hc4 => ?_) (fun hc4 => ?_)
  · have hf := if_t hf hc4
    refine lv_iconst (v := (0 : Int32)) hx hb dX9_hasSquare_21 (by decide) ?_
    have hr0 := so1 hf
    subst hr0
    rw [← hQ]
    exact W.zret (v := (0 : Int32)) hx hb hr rfl (fun t ht hW => ⟨rfl, ht⟩) (fun _ h => by cases h) dX9_hasSquare_22
  · have hf := if_f hf hc4
    refine lv_iconst (v := (1 : Int32)) hx hb dX9_hasSquare_17 (by decide) ?_
    refine lv_goto (tgt := 22) hx hb dX9_hasSquare_18 (by decide) ?_
    have hr0 := so1 hf
    subst hr0
    rw [← hQ]
    exact W.zret (v := (1 : Int32)) hx hb hr rfl (fun t ht hW => ⟨rfl, ht⟩) (fun _ h => by cases h) dX9_hasSquare_22
theorem hd_X9_hasSquare : yX9_hasSquare.cls = RX9 ∧ yX9_hasSquare.cls ≠ "java/lang/invoke/MethodHandle" ∧ yX9_hasSquare.cls ≠ "java/lang/invoke/VarHandle" ∧ (parseMethodDescriptor yX9_hasSquare.desc).map (fun d => d.parameters.length) = some 3 := by decide +kernel
def f_X9_holds  (v_squares : Int32) (v_s : (Nat → Int32)) (g1 : Int32) (g2 : Int32) (g3 : Int32) : Option (Int32) := gd (inB (((7 : Int32) + ((5 : Int32) * g1)) + (1 : Int32)) 100) (gd (inB (((7 : Int32) + ((5 : Int32) * g1)) + (2 : Int32)) 100) (bd1 (f_X9_hasSquare (v_squares) ((v_s ((((7 : Int32) + ((5 : Int32) * g1)) + (1 : Int32))).toNatClampNeg)) ((v_s ((((7 : Int32) + ((5 : Int32) * g1)) + (2 : Int32))).toNatClampNeg)) (g2)) fun r11 => if r11 = (0 : Int32) then (some ((0 : Int32))) else (gd (inB (((7 : Int32) + ((5 : Int32) * g1)) + (3 : Int32)) 100) (gd (inB (((7 : Int32) + ((5 : Int32) * g1)) + (4 : Int32)) 100) (bd1 (f_X9_in (g3) ((v_s ((((7 : Int32) + ((5 : Int32) * g1)) + (3 : Int32))).toNatClampNeg)) ((v_s ((((7 : Int32) + ((5 : Int32) * g1)) + (4 : Int32))).toNatClampNeg))) fun r15 => if r15 = (0 : Int32) then (some ((0 : Int32))) else (some ((1 : Int32))))))))
abbrev rm_X9_holds : Room := { frames := 1, cells := 0, slots := 0, locals := 23 }
set_option maxHeartbeats 4000000 in
set_option maxRecDepth 100000 in
theorem c_X9_holds (l : Launch) (G : zG) (a_this : Nat) (a_this_s : Nat) (a_this_text : Nat) (a_this_stars : Nat) (a_this_purses : Nat) (a_this_leases : Nat) (a_this_kept : Nat) (a_this_isKept : Nat) (a_this_offers : Nat) (a_this_seen : Nat) (v_thrown : Int32) (v_trace : Int64) (v_typed : Int32) (v_next : Int32) (v_token : Int32) (v_place : Int32) (v_value : Int32) (v_fault : Int32) (v_squares : Int32) (v_starMany : Int32) (v_tenants : Int32) (v_draftSquares : Int32) (v_draftStars : Int32) (v_draftTenants : Int32) (v_draftLeases : Int32) (v_offerMany : Int32) (v_seenMany : Int32) (v_s : (Nat → Int32)) (g1 : Int32) (g2 : Int32) (g3 : Int32) (R0 : Int32) (hf : f_X9_holds v_squares v_s g1 g2 g3 = some R0) : Met l yX9_holds wsX9_holds rm_X9_holds (va_Pc [.ref a_this, .int g1, .int g2, .int g3] (zR G [(a_this, .inr (9, [.int v_thrown, .long v_trace, .ref a_this_text, .int v_typed, .int v_next, .int v_token, .int v_place, .int v_value, .int v_fault, .int v_squares, .ref a_this_stars, .ref a_this_purses, .ref a_this_leases, .int v_starMany, .int v_tenants, .int v_draftSquares, .int v_draftStars, .int v_draftTenants, .int v_draftLeases, .ref a_this_s, .ref a_this_kept, .ref a_this_isKept, .ref a_this_offers, .int v_offerMany, .ref a_this_seen, .int v_seenMany])), (a_this_s, .inl (G.2.1, 100, .inl v_s))])) (zSv (some (.int R0))) 0 0 (fun _ => False) := by
  refine Met.ofW (cc := cX9_holds) (maxL := 5) (ret := (some .boolean)) (by decide) rfl ?_
  intro p e s m args below meth c s₁ B hml hv
  obtain ⟨hargs, hP, hE⟩ := hv
  have hx := B.exec
  have hb := B.bytes
  have hr := B.returns
  have hts := atoms_spec (ws := wsX9_holds) B.pre
  have hown : s.vm.findClass RX9 = some m.cls := findClass_of_methodNamed B.named
  have hlocks := B.notSynchronized
  have hK := hE.1
  have hC : CallFix p m c cX9_holds 5 s args wsX9_holds RX9 := ⟨hx, hb, hml, hown, hts⟩
  have inX9 : ∀ w ∈ wsX90, w ∈ wsX9_holds := by decide +kernel
  have lk22 := hts (.fieldLink RX9 22 "SkyLeasesModel" "s" "[I") (by decide +kernel)
  have hl := lv_entry ([.ref a_this, .int g1, .int g2, .int g3]) (n := 5) (Nat.le_of_ble_eq_true rfl)
  have hent : entryFrame m args 5 = F0 m 0 ((lg_sl ([.ref a_this, .int g1, .int g2, .int g3]) ++ List.replicate (5 - (lg_sl ([.ref a_this, .int g1, .int g2, .int g3])).length) Slot.unset).toArray) [] := by rw [hargs]; exact lg_entry_eq m [.ref a_this, .int g1, .int g2, .int g3] 5
  refine W.eq hent ?_
  clear hent
  generalize (lg_sl ([.ref a_this, .int g1, .int g2, .int g3]) ++ List.replicate (5 - (lg_sl ([.ref a_this, .int g1, .int g2, .int g3])).length) Slot.unset).toArray = ls at hl ⊢
  have hl : lv_has ls 5 [(0, .ref a_this), (1, .int g1), (2, .int g2), (3, .int g3)] := hl
  generalize hQ : MQ below _ args s 0 0 _ = QQ
  change W p l e rm_X9_holds s m args below meth c s.heap [] 0 0 QQ _
  unfold f_X9_holds at hf
  refine lv_bipush (v := (7 : Int32)) hx hb dX9_holds_0 (by decide) ?_
  refine lv_iconst (v := (5 : Int32)) hx hb dX9_holds_2 (by decide) ?_
  refine lv_iload_n hx hb dX9_holds_3 rfl (lv_at hl 1 rfl) ?_
  refine lv_imul hx hb dX9_holds_4 ?_
  refine lv_iadd hx hb dX9_holds_5 ?_
  refine lv_istore (lv' := [(4, .int ((7 : Int32) + ((5 : Int32) * g1))), (0, .ref a_this), (1, .int g1), (2, .int g2), (3, .int g3)]) hx hb dX9_holds_6 hl (by decide) rfl (fun ls hl => ?_)
  refine lv_aload_n hx hb dX9_holds_8 rfl (lv_at hl 1 rfl) ?_
  refine lv_aload_n hx hb dX9_holds_9 rfl (lv_at hl 1 rfl) ?_
  refine va_get (D := G.1) (ci := 9) (v := .ref a_this_s) (C := RX9) (T := TX9) (N := 26) hx hb hts inX9 hown hK hP 0 rfl rfl 19 (by decide) lk22 (fun _ h9 => h9) rfl dX9_holds_10 ?_
  refine lv_iload hx hb dX9_holds_13 (lv_at hl 0 rfl) ?_
  refine lv_iconst (v := (1 : Int32)) hx hb dX9_holds_15 (by decide) ?_
  refine lv_iadd hx hb dX9_holds_16 ?_
  obtain ⟨hg9, hf⟩ := gd_some hf
  refine va_iald hx hb hK hP 1 0 rfl rfl (inB_in hg9) dX9_holds_17 ?_
  refine lv_aload_n hx hb dX9_holds_18 rfl (lv_at hl 1 rfl) ?_
  refine va_get (D := G.1) (ci := 9) (v := .ref a_this_s) (C := RX9) (T := TX9) (N := 26) hx hb hts inX9 hown hK hP 0 rfl rfl 19 (by decide) lk22 (fun _ h9 => h9) rfl dX9_holds_19 ?_
  refine lv_iload hx hb dX9_holds_22 (lv_at hl 0 rfl) ?_
  refine lv_iconst (v := (2 : Int32)) hx hb dX9_holds_24 (by decide) ?_
  refine lv_iadd hx hb dX9_holds_25 ?_
  obtain ⟨hg10, hf⟩ := gd_some hf
  refine va_iald hx hb hK hP 1 0 rfl rfl (inB_in hg10) dX9_holds_26 ?_
  refine lv_iload_n hx hb dX9_holds_27 rfl (lv_at hl 3 rfl) ?_
  obtain ⟨r11, hu, hf⟩ := bd1_some hf
  refine zRi (va_runV (As := [.int (v_s ((((7 : Int32) + ((5 : Int32) * g1)) + (1 : Int32))).toNatClampNeg), .int (v_s ((((7 : Int32) + ((5 : Int32) * g1)) + (2 : Int32))).toNatClampNeg), .int g2]) (rest := []) hC (c_X9_hasSquare l G a_this a_this_text a_this_stars a_this_purses a_this_leases a_this_s a_this_kept a_this_isKept a_this_offers a_this_seen (v_thrown) (v_trace) (v_typed) (v_next) (v_token) (v_place) (v_value) (v_fault) (v_squares) (v_starMany) (v_tenants) (v_draftSquares) (v_draftStars) (v_draftTenants) (v_draftLeases) (v_offerMany) (v_seenMany) ((v_s ((((7 : Int32) + ((5 : Int32) * g1)) + (1 : Int32))).toNatClampNeg)) ((v_s ((((7 : Int32) + ((5 : Int32) * g1)) + (2 : Int32))).toNatClampNeg)) (g2) r11 hu) (cwV 3 hts gX9_holds_X9_hasSquare rfl rfl rfl hd_X9_hasSquare ⟨(Nat.le_of_ble_eq_true rfl), (Nat.le_of_ble_eq_true rfl)⟩) (zPV hE hP [0] rfl 0 rfl rfl) rfl rfl hl.1 rfl (lv_room (Nat.le_of_ble_eq_true rfl)) dX9_holds_28 ⟨Nat.zero_le _, Nat.zero_le _⟩) ?_
  refine lv_if_eq (tgt := 63) hx hb dX9_holds_31 (by decide) (fun hc12 => ?_) (fun hc12 => ?_)
  · have hf := if_t hf hc12
    refine lv_iconst (v := (0 : Int32)) hx hb dX9_holds_63 (by decide) ?_
    have hr0 := so1 hf
    subst hr0
    rw [← hQ]
    exact W.zret (v := (0 : Int32)) hx hb hr rfl (fun t ht hW => ⟨rfl, ht⟩) (fun _ h => by cases h) dX9_holds_64
  · have hf := if_f hf hc12
    refine lv_iload_n hx hb dX9_holds_34 rfl (lv_at hl 4 rfl) ?_
    refine lv_aload_n hx hb dX9_holds_35 rfl (lv_at hl 1 rfl) ?_
    refine va_get (D := G.1) (ci := 9) (v := .ref a_this_s) (C := RX9) (T := TX9) (N := 26) hx hb hts inX9 hown hK hP 0 rfl rfl 19 (by decide) lk22 (fun _ h9 => h9) rfl dX9_holds_36 ?_
    refine lv_iload hx hb dX9_holds_39 (lv_at hl 0 rfl) ?_
    refine lv_iconst (v := (3 : Int32)) hx hb dX9_holds_41 (by decide) ?_
    refine lv_iadd hx hb dX9_holds_42 ?_
    obtain ⟨hg13, hf⟩ := gd_some hf
    refine va_iald hx hb hK hP 1 0 rfl rfl (inB_in hg13) dX9_holds_43 ?_
    refine lv_aload_n hx hb dX9_holds_44 rfl (lv_at hl 1 rfl) ?_
    refine va_get (D := G.1) (ci := 9) (v := .ref a_this_s) (C := RX9) (T := TX9) (N := 26) hx hb hts inX9 hown hK hP 0 rfl rfl 19 (by decide) lk22 (fun _ h9 => h9) rfl dX9_holds_45 ?_
    refine lv_iload hx hb dX9_holds_48 (lv_at hl 0 rfl) ?_
    refine lv_iconst (v := (4 : Int32)) hx hb dX9_holds_50 (by decide) ?_
    refine lv_iadd hx hb dX9_holds_51 ?_
    obtain ⟨hg14, hf⟩ := gd_some hf
    refine va_iald hx hb hK hP 1 0 rfl rfl (inB_in hg14) dX9_holds_52 ?_
    obtain ⟨r15, hu, hf⟩ := bd1_some hf
    refine zRi (va_runS (As := [.int g3, .int (v_s ((((7 : Int32) + ((5 : Int32) * g1)) + (3 : Int32))).toNatClampNeg), .int (v_s ((((7 : Int32) + ((5 : Int32) * g1)) + (4 : Int32))).toNatClampNeg)]) (rest := []) hC (c_X9_in l G (g3) ((v_s ((((7 : Int32) + ((5 : Int32) * g1)) + (3 : Int32))).toNatClampNeg)) ((v_s ((((7 : Int32) + ((5 : Int32) * g1)) + (4 : Int32))).toNatClampNeg)) r15 hu) (va_cwS 3 hts gX9_holds_X9_in rfl rfl rfl hd_X9_in.2 ⟨(Nat.le_of_ble_eq_true rfl), (Nat.le_of_ble_eq_true rfl)⟩) (zPS hE hP [] rfl) rfl rfl hl.1 rfl (lv_room (Nat.le_of_ble_eq_true rfl)) dX9_holds_53 ⟨Nat.zero_le _, Nat.zero_le _⟩) ?_
    refine lv_if_eq (tgt := 63) hx hb dX9_holds_56 (by decide) (fun hc16 => ?_) (fun hc16 => ?_)
    · have hf := if_t hf hc16
      refine lv_iconst (v := (0 : Int32)) hx hb dX9_holds_63 (by decide) ?_
      have hr0 := so1 hf
      subst hr0
      rw [← hQ]
      exact W.zret (v := (0 : Int32)) hx hb hr rfl (fun t ht hW => ⟨rfl, ht⟩) (fun _ h => by cases h) dX9_holds_64
    · have hf := if_f hf hc16
      refine lv_iconst (v := (1 : Int32)) hx hb dX9_holds_59 (by decide) ?_
      refine lv_goto (tgt := 64) hx hb dX9_holds_60 (by decide) ?_
      have hr0 := so1 hf
      subst hr0
      rw [← hQ]
      exact W.zret (v := (1 : Int32)) hx hb hr rfl (fun t ht hW => ⟨rfl, ht⟩) (fun _ h => by cases h) dX9_holds_64
theorem hd_X9_holds : yX9_holds.cls = RX9 ∧ yX9_holds.cls ≠ "java/lang/invoke/MethodHandle" ∧ yX9_holds.cls ≠ "java/lang/invoke/VarHandle" ∧ (parseMethodDescriptor yX9_holds.desc).map (fun d => d.parameters.length) = some 3 := by decide +kernel
def f_X9_whoseIs_b2 (v_squares : Int32) (v_s : (Nat → Int32))  (x1 : Int32) (x2 : Int32) : Nat → Int32 → Option (Int32)
  | 0, _ => none
  | n2 + 1, x3 => gd (inB (6 : Int32) 100) (if (v_s ((6 : Int32)).toNatClampNeg) ≤ x3 then (some ((-9 : Int32))) else (bd1 (f_X9_holds (v_squares) (v_s) (x3) (x1) (x2)) fun r8 => if r8 = (0 : Int32) then (f_X9_whoseIs_b2 v_squares v_s x1 x2 n2 ((x3 + (1 : Int32)))) else (gd (inB ((7 : Int32) + ((5 : Int32) * x3)) 100) (some ((v_s (((7 : Int32) + ((5 : Int32) * x3))).toNatClampNeg))))))
def f_X9_whoseIs  (v_squares : Int32) (v_s : (Nat → Int32)) (g1 : Int32) (g2 : Int32) : Option (Int32) := f_X9_whoseIs_b2 v_squares v_s (g1) (g2) zF ((0 : Int32))
abbrev rm_X9_whoseIs : Room := { frames := 2, cells := 0, slots := 0, locals := 47 }
set_option maxHeartbeats 4000000 in
set_option maxRecDepth 100000 in
theorem c_X9_whoseIs (l : Launch) (G : zG) (a_this : Nat) (a_this_s : Nat) (a_this_text : Nat) (a_this_stars : Nat) (a_this_purses : Nat) (a_this_leases : Nat) (a_this_kept : Nat) (a_this_isKept : Nat) (a_this_offers : Nat) (a_this_seen : Nat) (v_thrown : Int32) (v_trace : Int64) (v_typed : Int32) (v_next : Int32) (v_token : Int32) (v_place : Int32) (v_value : Int32) (v_fault : Int32) (v_squares : Int32) (v_starMany : Int32) (v_tenants : Int32) (v_draftSquares : Int32) (v_draftStars : Int32) (v_draftTenants : Int32) (v_draftLeases : Int32) (v_offerMany : Int32) (v_seenMany : Int32) (v_s : (Nat → Int32)) (g1 : Int32) (g2 : Int32) (R0 : Int32) (hf : f_X9_whoseIs v_squares v_s g1 g2 = some R0) : Met l yX9_whoseIs wsX9_whoseIs rm_X9_whoseIs (va_Pc [.ref a_this, .int g1, .int g2] (zR G [(a_this, .inr (9, [.int v_thrown, .long v_trace, .ref a_this_text, .int v_typed, .int v_next, .int v_token, .int v_place, .int v_value, .int v_fault, .int v_squares, .ref a_this_stars, .ref a_this_purses, .ref a_this_leases, .int v_starMany, .int v_tenants, .int v_draftSquares, .int v_draftStars, .int v_draftTenants, .int v_draftLeases, .ref a_this_s, .ref a_this_kept, .ref a_this_isKept, .ref a_this_offers, .int v_offerMany, .ref a_this_seen, .int v_seenMany])), (a_this_s, .inl (G.2.1, 100, .inl v_s))])) (zSv (some (.int R0))) 0 0 (fun _ => False) := by
  refine Met.ofW (cc := cX9_whoseIs) (maxL := 4) (ret := (some .int)) (by decide) rfl ?_
  intro p e s m args below meth c s₁ B hml hv
  obtain ⟨hargs, hP, hE⟩ := hv
  have hx := B.exec
  have hb := B.bytes
  have hr := B.returns
  have hts := atoms_spec (ws := wsX9_whoseIs) B.pre
  have hown : s.vm.findClass RX9 = some m.cls := findClass_of_methodNamed B.named
  have hlocks := B.notSynchronized
  have hK := hE.1
  have hC : CallFix p m c cX9_whoseIs 4 s args wsX9_whoseIs RX9 := ⟨hx, hb, hml, hown, hts⟩
  have inX9 : ∀ w ∈ wsX90, w ∈ wsX9_whoseIs := by decide +kernel
  have lk22 := hts (.fieldLink RX9 22 "SkyLeasesModel" "s" "[I") (by decide +kernel)
  have hl := lv_entry ([.ref a_this, .int g1, .int g2]) (n := 4) (Nat.le_of_ble_eq_true rfl)
  have hent : entryFrame m args 4 = F0 m 0 ((lg_sl ([.ref a_this, .int g1, .int g2]) ++ List.replicate (4 - (lg_sl ([.ref a_this, .int g1, .int g2])).length) Slot.unset).toArray) [] := by rw [hargs]; exact lg_entry_eq m [.ref a_this, .int g1, .int g2] 4
  refine W.eq hent ?_
  clear hent
  generalize (lg_sl ([.ref a_this, .int g1, .int g2]) ++ List.replicate (4 - (lg_sl ([.ref a_this, .int g1, .int g2])).length) Slot.unset).toArray = ls at hl ⊢
  have hl : lv_has ls 4 [(0, .ref a_this), (1, .int g1), (2, .int g2)] := hl
  generalize hQ : MQ below _ args s 0 0 _ = QQ
  change W p l e rm_X9_whoseIs s m args below meth c s.heap [] 0 0 QQ _
  have j2 : ∀ (x1 : Int32), ∀ (x2 : Int32), ∀ (nn : Nat), ∀ (x3 : Int32), ∀ (ls : Array Slot), lv_has ls 4 [(0, .ref a_this), (1, .int x1), (2, .int x2), (3, .int x3)] → f_X9_whoseIs_b2 v_squares v_s x1 x2 nn x3 = some R0 → W p l e rm_X9_whoseIs s m args below meth c s.heap [] 0 0 QQ (F0 m 2 ls []) := by
    intro x1 x2
    intro nn
    induction nn with
    | zero =>
      intro x3 ls hl hf
      rw [f_X9_whoseIs_b2] at hf
      cases hf
    | succ n2 ih =>
      intro x3 ls hl hf
      rw [f_X9_whoseIs_b2] at hf
      refine lv_iload_n hx hb dX9_whoseIs_2 rfl (lv_at hl 3 rfl) ?_
      refine lv_aload_n hx hb dX9_whoseIs_3 rfl (lv_at hl 0 rfl) ?_
      refine va_get (D := G.1) (ci := 9) (v := .ref a_this_s) (C := RX9) (T := TX9) (N := 26) hx hb hts inX9 hown hK hP 0 rfl rfl 19 (by decide) lk22 (fun _ h9 => h9) rfl dX9_whoseIs_4 ?_
      refine lv_bipush (v := (6 : Int32)) hx hb dX9_whoseIs_7 (by decide) ?_
      obtain ⟨hg6, hf⟩ := gd_some hf
      refine va_iald hx hb hK hP 1 0 rfl rfl (inB_in hg6) dX9_whoseIs_9 ?_
      refine lv_icmp_ge (tgt := 41) hx hb dX9_whoseIs_10 (by decide) (fun hc7 => ?_) (fun hc7 => ?_)
      · have hf := if_t hf hc7
        refine lv_bipush (v := (-9 : Int32)) hx hb dX9_whoseIs_41 (by decide) ?_
        have hr0 := so1 hf
        subst hr0
        rw [← hQ]
        exact W.iret (v := (-9 : Int32)) hx hb hr (fun t ht hW => ⟨rfl, ht⟩) (fun _ h => by cases h) dX9_whoseIs_43
      · have hf := if_f hf hc7
        refine lv_aload_n hx hb dX9_whoseIs_13 rfl (lv_at hl 0 rfl) ?_
        refine lv_iload_n hx hb dX9_whoseIs_14 rfl (lv_at hl 3 rfl) ?_
        refine lv_iload_n hx hb dX9_whoseIs_15 rfl (lv_at hl 1 rfl) ?_
        refine lv_iload_n hx hb dX9_whoseIs_16 rfl (lv_at hl 2 rfl) ?_
        obtain ⟨r8, hu, hf⟩ := bd1_some hf
        refine zRi (va_runV (As := [.int x3, .int x1, .int x2]) (rest := []) hC (c_X9_holds l G a_this a_this_s a_this_text a_this_stars a_this_purses a_this_leases a_this_kept a_this_isKept a_this_offers a_this_seen (v_thrown) (v_trace) (v_typed) (v_next) (v_token) (v_place) (v_value) (v_fault) (v_squares) (v_starMany) (v_tenants) (v_draftSquares) (v_draftStars) (v_draftTenants) (v_draftLeases) (v_offerMany) (v_seenMany) (v_s) (x3) (x1) (x2) r8 hu) (cwV 3 hts gX9_whoseIs_X9_holds rfl rfl rfl hd_X9_holds ⟨(Nat.le_of_ble_eq_true rfl), (Nat.le_of_ble_eq_true rfl)⟩) (zPV hE hP [0, 1] rfl 0 rfl rfl) rfl rfl hl.1 rfl (lv_room (Nat.le_of_ble_eq_true rfl)) dX9_whoseIs_17 ⟨Nat.zero_le _, Nat.zero_le _⟩) ?_
        refine lv_if_eq (tgt := 35) hx hb dX9_whoseIs_20 (by decide) (fun hc9 => ?_) (fun hc9 => ?_)
        · have hf := if_t hf hc9
          refine lv_iinc (v := (x3 + (1 : Int32))) (lv' := [(3, .int (x3 + (1 : Int32))), (0, .ref a_this), (1, .int x1), (2, .int x2)]) hx hb dX9_whoseIs_35 hl (k := 3) rfl rfl (by decide) rfl (fun ls hl => ?_)
          refine lv_goto (tgt := 2) hx hb dX9_whoseIs_38 (by decide) ?_
          exact ih ((x3 + (1 : Int32))) ls (lv_sub hl [1, 2, 3, 0] rfl) hf
        · have hf := if_f hf hc9
          refine lv_aload_n hx hb dX9_whoseIs_23 rfl (lv_at hl 0 rfl) ?_
          refine va_get (D := G.1) (ci := 9) (v := .ref a_this_s) (C := RX9) (T := TX9) (N := 26) hx hb hts inX9 hown hK hP 0 rfl rfl 19 (by decide) lk22 (fun _ h9 => h9) rfl dX9_whoseIs_24 ?_
          refine lv_bipush (v := (7 : Int32)) hx hb dX9_whoseIs_27 (by decide) ?_
          refine lv_iconst (v := (5 : Int32)) hx hb dX9_whoseIs_29 (by decide) ?_
          refine lv_iload_n hx hb dX9_whoseIs_30 rfl (lv_at hl 3 rfl) ?_
          refine lv_imul hx hb dX9_whoseIs_31 ?_
          refine lv_iadd hx hb dX9_whoseIs_32 ?_
          obtain ⟨hg10, hf⟩ := gd_some hf
          refine va_iald hx hb hK hP 1 0 rfl rfl (inB_in hg10) dX9_whoseIs_33 ?_
          have hr0 := so1 hf
          subst hr0
          rw [← hQ]
          exact W.iret (v := (v_s (((7 : Int32) + ((5 : Int32) * x3))).toNatClampNeg)) hx hb hr (fun t ht hW => ⟨rfl, ht⟩) (fun _ h => by cases h) dX9_whoseIs_34
  unfold f_X9_whoseIs at hf
  refine lv_iconst (v := (0 : Int32)) hx hb dX9_whoseIs_0 (by decide) ?_
  refine lv_istore_n (lv' := [(3, .int (0 : Int32)), (0, .ref a_this), (1, .int g1), (2, .int g2)]) hx hb dX9_whoseIs_1 rfl hl (by decide) rfl (fun ls hl => ?_)
  exact j2 (g1) (g2) zF ((0 : Int32)) ls (lv_sub hl [1, 2, 3, 0] rfl) hf
theorem hd_X9_isNight : yX9_isNight.cls = RX9 ∧ yX9_isNight.cls ≠ "java/lang/invoke/MethodHandle" ∧ yX9_isNight.cls ≠ "java/lang/invoke/VarHandle" ∧ (parseMethodDescriptor yX9_isNight.desc).map (fun d => d.parameters.length) = some 1 := by decide +kernel
theorem hd_X9_isSquare : yX9_isSquare.cls = RX9 ∧ yX9_isSquare.cls ≠ "java/lang/invoke/MethodHandle" ∧ yX9_isSquare.cls ≠ "java/lang/invoke/VarHandle" ∧ (parseMethodDescriptor yX9_isSquare.desc).map (fun d => d.parameters.length) = some 1 := by decide +kernel
theorem hd_X9_whoseIs : yX9_whoseIs.cls = RX9 ∧ yX9_whoseIs.cls ≠ "java/lang/invoke/MethodHandle" ∧ yX9_whoseIs.cls ≠ "java/lang/invoke/VarHandle" ∧ (parseMethodDescriptor yX9_whoseIs.desc).map (fun d => d.parameters.length) = some 2 := by decide +kernel
def f_X9_whose  (v_thrown : Int32) (v_squares : Int32) (v_s : (Nat → Int32)) (g1 : Int32) (g2 : Int32) : Option (Int32 × Int32) := bd1 (f_X9_isSquare (v_squares) (g1)) fun r6 => if r6 = (0 : Int32) then (some ((-1 : Int32), (0 : Int32))) else (bd1 (f_X9_isNight (g2)) fun r8 => if r8 = (0 : Int32) then (some ((-1 : Int32), (0 : Int32))) else (bd1 (f_X9_whoseIs (v_squares) (v_s) (g1) (g2)) fun r10 => some (r10, (0 : Int32))))
abbrev rm_X9_whose : Room := { frames := 3, cells := 0, slots := 0, locals := 70 }
set_option maxHeartbeats 4000000 in
set_option maxRecDepth 100000 in
theorem c_X9_whose (l : Launch) (G : zG) (sz : Nat) (a_this : Nat) (a_this_s : Nat) (a_this_text : Nat) (a_this_stars : Nat) (a_this_purses : Nat) (a_this_leases : Nat) (a_this_kept : Nat) (a_this_isKept : Nat) (a_this_offers : Nat) (a_this_seen : Nat) (v_thrown : Int32) (v_trace : Int64) (v_typed : Int32) (v_next : Int32) (v_token : Int32) (v_place : Int32) (v_value : Int32) (v_fault : Int32) (v_squares : Int32) (v_starMany : Int32) (v_tenants : Int32) (v_draftSquares : Int32) (v_draftStars : Int32) (v_draftTenants : Int32) (v_draftLeases : Int32) (v_offerMany : Int32) (v_seenMany : Int32) (v_s : (Nat → Int32)) (g1 : Int32) (g2 : Int32) (R0 : Int32) (R1 : Int32) (hf : f_X9_whose v_thrown v_squares v_s g1 g2 = some (R0, R1)) : Met l yX9_whose wsX9_whose rm_X9_whose (va_Pc [.ref a_this, .int g1, .int g2] (zB G [(a_this, .inr (9, [.int v_thrown, .long v_trace, .ref a_this_text, .int v_typed, .int v_next, .int v_token, .int v_place, .int v_value, .int v_fault, .int v_squares, .ref a_this_stars, .ref a_this_purses, .ref a_this_leases, .int v_starMany, .int v_tenants, .int v_draftSquares, .int v_draftStars, .int v_draftTenants, .int v_draftLeases, .ref a_this_s, .ref a_this_kept, .ref a_this_isKept, .ref a_this_offers, .int v_offerMany, .ref a_this_seen, .int v_seenMany])), (a_this_s, .inl (G.2.1, 100, .inl v_s))] sz)) (zQ G (some (.int R0)) [(a_this, .inr (9, [.int R1, .long v_trace, .ref a_this_text, .int v_typed, .int v_next, .int v_token, .int v_place, .int v_value, .int v_fault, .int v_squares, .ref a_this_stars, .ref a_this_purses, .ref a_this_leases, .int v_starMany, .int v_tenants, .int v_draftSquares, .int v_draftStars, .int v_draftTenants, .int v_draftLeases, .ref a_this_s, .ref a_this_kept, .ref a_this_isKept, .ref a_this_offers, .int v_offerMany, .ref a_this_seen, .int v_seenMany])), (a_this_s, .inl (G.2.1, 100, .inl v_s))] (va_A [(a_this, .inr (9, [.int v_thrown, .long v_trace, .ref a_this_text, .int v_typed, .int v_next, .int v_token, .int v_place, .int v_value, .int v_fault, .int v_squares, .ref a_this_stars, .ref a_this_purses, .ref a_this_leases, .int v_starMany, .int v_tenants, .int v_draftSquares, .int v_draftStars, .int v_draftTenants, .int v_draftLeases, .ref a_this_s, .ref a_this_kept, .ref a_this_isKept, .ref a_this_offers, .int v_offerMany, .ref a_this_seen, .int v_seenMany])), (a_this_s, .inl (G.2.1, 100, .inl v_s))] sz)) 0 0 (va_A [(a_this, .inr (9, [.int v_thrown, .long v_trace, .ref a_this_text, .int v_typed, .int v_next, .int v_token, .int v_place, .int v_value, .int v_fault, .int v_squares, .ref a_this_stars, .ref a_this_purses, .ref a_this_leases, .int v_starMany, .int v_tenants, .int v_draftSquares, .int v_draftStars, .int v_draftTenants, .int v_draftLeases, .ref a_this_s, .ref a_this_kept, .ref a_this_isKept, .ref a_this_offers, .int v_offerMany, .ref a_this_seen, .int v_seenMany])), (a_this_s, .inl (G.2.1, 100, .inl v_s))] sz) := by
  refine Met.ofW (cc := cX9_whose) (maxL := 3) (ret := (some .int)) (by decide) rfl ?_
  intro p e s m args below meth c s₁ B hml hv
  obtain ⟨hargs, hsz, hP, hD0, hE⟩ := hv
  have hx := B.exec
  have hb := B.bytes
  have hr := B.returns
  have hts := atoms_spec (ws := wsX9_whose) B.pre
  have hown : s.vm.findClass RX9 = some m.cls := findClass_of_methodNamed B.named
  have hlocks := B.notSynchronized
  have hK := hE.1
  have hC : CallFix p m c cX9_whose 3 s args wsX9_whose RX9 := ⟨hx, hb, hml, hown, hts⟩
  have inX9 : ∀ w ∈ wsX90, w ∈ wsX9_whose := by decide +kernel
  have lk42 := hts (.fieldLink RX9 42 "SkyLeasesModel" "thrown" "I") (by decide +kernel)
  subst hsz
  have hD := hD0.self (sz := s.heap.size)
  generalize hAe : va_A [(a_this, .inr (9, [.int v_thrown, .long v_trace, .ref a_this_text, .int v_typed, .int v_next, .int v_token, .int v_place, .int v_value, .int v_fault, .int v_squares, .ref a_this_stars, .ref a_this_purses, .ref a_this_leases, .int v_starMany, .int v_tenants, .int v_draftSquares, .int v_draftStars, .int v_draftTenants, .int v_draftLeases, .ref a_this_s, .ref a_this_kept, .ref a_this_isKept, .ref a_this_offers, .int v_offerMany, .ref a_this_seen, .int v_seenMany])), (a_this_s, .inl (G.2.1, 100, .inl v_s))] s.heap.size = A at hD ⊢
  have hA : ∀ q : Nat, s.heap.size ≤ q → A q := fun q h => by rw [← hAe]; exact Or.inr h
  have hS : va_S A s.heap s.heap [] := va_S.rf
  have hP : va_P G.1 vwCl [(a_this, .inr (9, [.int v_thrown, .long v_trace, .ref a_this_text, .int v_typed, .int v_next, .int v_token, .int v_place, .int v_value, .int v_fault, .int v_squares, .ref a_this_stars, .ref a_this_purses, .ref a_this_leases, .int v_starMany, .int v_tenants, .int v_draftSquares, .int v_draftStars, .int v_draftTenants, .int v_draftLeases, .ref a_this_s, .ref a_this_kept, .ref a_this_isKept, .ref a_this_offers, .int v_offerMany, .ref a_this_seen, .int v_seenMany])), (a_this_s, .inl (G.2.1, 100, .inl v_s))] s.heap := hP
  have hl := lv_entry ([.ref a_this, .int g1, .int g2]) (n := 3) (Nat.le_of_ble_eq_true rfl)
  have hent : entryFrame m args 3 = F0 m 0 ((lg_sl ([.ref a_this, .int g1, .int g2]) ++ List.replicate (3 - (lg_sl ([.ref a_this, .int g1, .int g2])).length) Slot.unset).toArray) [] := by rw [hargs]; exact lg_entry_eq m [.ref a_this, .int g1, .int g2] 3
  refine W.eq hent ?_
  clear hent
  generalize (lg_sl ([.ref a_this, .int g1, .int g2]) ++ List.replicate (3 - (lg_sl ([.ref a_this, .int g1, .int g2])).length) Slot.unset).toArray = ls at hl ⊢
  have hl : lv_has ls 3 [(0, .ref a_this), (1, .int g1), (2, .int g2)] := hl
  generalize hQ : MQ below _ args s 0 0 _ = QQ
  change W p l e rm_X9_whose s m args below meth c s.heap [] 0 0 QQ _
  have hSH := hS
  unfold f_X9_whose at hf
  refine lv_aload_n hx hb dX9_whose_0 rfl (lv_at hl 0 rfl) ?_
  refine lv_iconst (v := (0 : Int32)) hx hb dX9_whose_1 (by decide) ?_
  refine va_put (D := G.1) (ci := 9) (v := .int (0 : Int32)) (ty := .int) (C := RX9) (T := TX9) (N := 26) hx hb hts inX9 tyX9 tyX9_ok nmX9 hown hK hP hD hS 0 rfl rfl 0 (by decide) lk42 (fun _ h9 => h9) rfl (by decide +kernel) rfl rfl (Nat.le_of_ble_eq_true rfl) dX9_whose_2 (fun H locs hP hD hS => ?_)
  have hP : va_P G.1 vwCl [(a_this, .inr (9, [.int (0 : Int32), .long v_trace, .ref a_this_text, .int v_typed, .int v_next, .int v_token, .int v_place, .int v_value, .int v_fault, .int v_squares, .ref a_this_stars, .ref a_this_purses, .ref a_this_leases, .int v_starMany, .int v_tenants, .int v_draftSquares, .int v_draftStars, .int v_draftTenants, .int v_draftLeases, .ref a_this_s, .ref a_this_kept, .ref a_this_isKept, .ref a_this_offers, .int v_offerMany, .ref a_this_seen, .int v_seenMany])), (a_this_s, .inl (G.2.1, 100, .inl v_s))] H := hP
  have hD : va_D A [(a_this, .inr (9, [.int (0 : Int32), .long v_trace, .ref a_this_text, .int v_typed, .int v_next, .int v_token, .int v_place, .int v_value, .int v_fault, .int v_squares, .ref a_this_stars, .ref a_this_purses, .ref a_this_leases, .int v_starMany, .int v_tenants, .int v_draftSquares, .int v_draftStars, .int v_draftTenants, .int v_draftLeases, .ref a_this_s, .ref a_this_kept, .ref a_this_isKept, .ref a_this_offers, .int v_offerMany, .ref a_this_seen, .int v_seenMany])), (a_this_s, .inl (G.2.1, 100, .inl v_s))] := hD
  refine lv_aload_n hx hb dX9_whose_5 rfl (lv_at hl 0 rfl) ?_
  refine lv_iload_n hx hb dX9_whose_6 rfl (lv_at hl 1 rfl) ?_
  obtain ⟨r6, hu, hf⟩ := bd1_some hf
  refine zRi (va_runV (As := [.int g1]) (rest := []) hC (c_X9_isSquare l G a_this a_this_text a_this_stars a_this_purses a_this_leases a_this_s a_this_kept a_this_isKept a_this_offers a_this_seen ((0 : Int32)) (v_trace) (v_typed) (v_next) (v_token) (v_place) (v_value) (v_fault) (v_squares) (v_starMany) (v_tenants) (v_draftSquares) (v_draftStars) (v_draftTenants) (v_draftLeases) (v_offerMany) (v_seenMany) (g1) r6 hu) (cwV 1 hts gX9_whose_X9_isSquare rfl rfl rfl hd_X9_isSquare ⟨(Nat.le_of_ble_eq_true rfl), (Nat.le_of_ble_eq_true rfl)⟩) (zPV hE hP [0] rfl 0 rfl rfl) rfl rfl hl.1 rfl (lv_room (Nat.le_of_ble_eq_true rfl)) dX9_whose_7 ⟨Nat.zero_le _, Nat.zero_le _⟩) ?_
  refine lv_if_eq (tgt := 29) hx hb dX9_whose_10 (by decide) (fun hc7 => ?_) (fun hc7 => ?_)
  · have hf := if_t hf hc7
    refine lv_iconst (v := (-1 : Int32)) hx hb dX9_whose_29 (by decide) ?_
    obtain ⟨hr0, hr1⟩ := so2 hf
    subst hr0
    subst hr1
    rw [← hQ]
    exact W.iret (v := (-1 : Int32)) hx hb hr (fun t ht hW => ⟨⟨rfl, by rw [ht]; exact hP⟩, hS.F ht⟩) hS.2.2 dX9_whose_30
  · have hf := if_f hf hc7
    refine lv_iload_n hx hb dX9_whose_13 rfl (lv_at hl 2 rfl) ?_
    obtain ⟨r8, hu, hf⟩ := bd1_some hf
    refine zRi (va_runS (As := [.int g2]) (rest := []) hC (c_X9_isNight l G (g2) r8 hu) (va_cwS 1 hts gX9_whose_X9_isNight rfl rfl rfl hd_X9_isNight.2 ⟨(Nat.le_of_ble_eq_true rfl), (Nat.le_of_ble_eq_true rfl)⟩) (zPS hE hP [] rfl) rfl rfl hl.1 rfl (lv_room (Nat.le_of_ble_eq_true rfl)) dX9_whose_14 ⟨Nat.zero_le _, Nat.zero_le _⟩) ?_
    refine lv_if_eq (tgt := 29) hx hb dX9_whose_17 (by decide) (fun hc9 => ?_) (fun hc9 => ?_)
    · have hf := if_t hf hc9
      refine lv_iconst (v := (-1 : Int32)) hx hb dX9_whose_29 (by decide) ?_
      obtain ⟨hr0, hr1⟩ := so2 hf
      subst hr0
      subst hr1
      rw [← hQ]
      exact W.iret (v := (-1 : Int32)) hx hb hr (fun t ht hW => ⟨⟨rfl, by rw [ht]; exact hP⟩, hS.F ht⟩) hS.2.2 dX9_whose_30
    · have hf := if_f hf hc9
      refine lv_aload_n hx hb dX9_whose_20 rfl (lv_at hl 0 rfl) ?_
      refine lv_iload_n hx hb dX9_whose_21 rfl (lv_at hl 1 rfl) ?_
      refine lv_iload_n hx hb dX9_whose_22 rfl (lv_at hl 2 rfl) ?_
      obtain ⟨r10, hu, hf⟩ := bd1_some hf
      refine zRi (va_runV (As := [.int g1, .int g2]) (rest := []) hC (c_X9_whoseIs l G a_this a_this_s a_this_text a_this_stars a_this_purses a_this_leases a_this_kept a_this_isKept a_this_offers a_this_seen ((0 : Int32)) (v_trace) (v_typed) (v_next) (v_token) (v_place) (v_value) (v_fault) (v_squares) (v_starMany) (v_tenants) (v_draftSquares) (v_draftStars) (v_draftTenants) (v_draftLeases) (v_offerMany) (v_seenMany) (v_s) (g1) (g2) r10 hu) (cwV 2 hts gX9_whose_X9_whoseIs rfl rfl rfl hd_X9_whoseIs ⟨(Nat.le_of_ble_eq_true rfl), (Nat.le_of_ble_eq_true rfl)⟩) (zPV hE hP [0, 1] rfl 0 rfl rfl) rfl rfl hl.1 rfl (lv_room (Nat.le_of_ble_eq_true rfl)) dX9_whose_23 ⟨Nat.zero_le _, Nat.zero_le _⟩) ?_
      refine lv_goto (tgt := 30) hx hb dX9_whose_26 (by decide) ?_
      obtain ⟨hr0, hr1⟩ := so2 hf
      subst hr0
      subst hr1
      rw [← hQ]
      exact W.iret (v := r10) hx hb hr (fun t ht hW => ⟨⟨rfl, by rw [ht]; exact hP⟩, hS.F ht⟩) hS.2.2 dX9_whose_30
def f_X9_claims_b56  (k27 : Int32 → Int32 → Option (Int32 × Int32))  (x4 : Int32) (t0 : Int32) (t1 : Int32) : Option (Int32 × Int32) := k27 ((t0 + t1)) ((x4 + (1 : Int32)))
def f_X9_claims_b27 (v_squares : Int32) (v_s : (Nat → Int32))  (x1 : Int32) (x2 : Int32) (v_thrown : Int32) : Nat → Int32 → Int32 → Option (Int32 × Int32)
  | 0, _, _ => none
  | n27 + 1, x3, x4 => gd (inB (6 : Int32) 100) (if (v_s ((6 : Int32)).toNatClampNeg) ≤ x4 then (some (x3, v_thrown)) else (bd1 (f_X9_holds (v_squares) (v_s) (x4) (x1) (x2)) fun r11 => if r11 = (0 : Int32) then (f_X9_claims_b56 (f_X9_claims_b27 v_squares v_s x1 x2 v_thrown n27) (x4) (x3) ((0 : Int32))) else (f_X9_claims_b56 (f_X9_claims_b27 v_squares v_s x1 x2 v_thrown n27) (x4) (x3) ((1 : Int32)))))
def f_X9_claims  (v_thrown : Int32) (v_squares : Int32) (v_s : (Nat → Int32)) (g1 : Int32) (g2 : Int32) : Option (Int32 × Int32) := bd1 (f_X9_isSquare (v_squares) (g1)) fun r13 => if r13 = (0 : Int32) then (some ((-1 : Int32), (0 : Int32))) else (bd1 (f_X9_isNight (g2)) fun r15 => if r15 = (0 : Int32) then (some ((-1 : Int32), (0 : Int32))) else (f_X9_claims_b27 v_squares v_s (g1) (g2) ((0 : Int32)) zF ((0 : Int32)) ((0 : Int32))))
abbrev rm_X9_claims : Room := { frames := 2, cells := 0, slots := 0, locals := 47 }
set_option maxHeartbeats 4000000 in
set_option maxRecDepth 100000 in
theorem c_X9_claims (l : Launch) (G : zG) (sz : Nat) (a_this : Nat) (a_this_s : Nat) (a_this_text : Nat) (a_this_stars : Nat) (a_this_purses : Nat) (a_this_leases : Nat) (a_this_kept : Nat) (a_this_isKept : Nat) (a_this_offers : Nat) (a_this_seen : Nat) (v_thrown : Int32) (v_trace : Int64) (v_typed : Int32) (v_next : Int32) (v_token : Int32) (v_place : Int32) (v_value : Int32) (v_fault : Int32) (v_squares : Int32) (v_starMany : Int32) (v_tenants : Int32) (v_draftSquares : Int32) (v_draftStars : Int32) (v_draftTenants : Int32) (v_draftLeases : Int32) (v_offerMany : Int32) (v_seenMany : Int32) (v_s : (Nat → Int32)) (g1 : Int32) (g2 : Int32) (R0 : Int32) (R1 : Int32) (hf : f_X9_claims v_thrown v_squares v_s g1 g2 = some (R0, R1)) : Met l yX9_claims wsX9_claims rm_X9_claims (va_Pc [.ref a_this, .int g1, .int g2] (zB G [(a_this, .inr (9, [.int v_thrown, .long v_trace, .ref a_this_text, .int v_typed, .int v_next, .int v_token, .int v_place, .int v_value, .int v_fault, .int v_squares, .ref a_this_stars, .ref a_this_purses, .ref a_this_leases, .int v_starMany, .int v_tenants, .int v_draftSquares, .int v_draftStars, .int v_draftTenants, .int v_draftLeases, .ref a_this_s, .ref a_this_kept, .ref a_this_isKept, .ref a_this_offers, .int v_offerMany, .ref a_this_seen, .int v_seenMany])), (a_this_s, .inl (G.2.1, 100, .inl v_s))] sz)) (zQ G (some (.int R0)) [(a_this, .inr (9, [.int R1, .long v_trace, .ref a_this_text, .int v_typed, .int v_next, .int v_token, .int v_place, .int v_value, .int v_fault, .int v_squares, .ref a_this_stars, .ref a_this_purses, .ref a_this_leases, .int v_starMany, .int v_tenants, .int v_draftSquares, .int v_draftStars, .int v_draftTenants, .int v_draftLeases, .ref a_this_s, .ref a_this_kept, .ref a_this_isKept, .ref a_this_offers, .int v_offerMany, .ref a_this_seen, .int v_seenMany])), (a_this_s, .inl (G.2.1, 100, .inl v_s))] (va_A [(a_this, .inr (9, [.int v_thrown, .long v_trace, .ref a_this_text, .int v_typed, .int v_next, .int v_token, .int v_place, .int v_value, .int v_fault, .int v_squares, .ref a_this_stars, .ref a_this_purses, .ref a_this_leases, .int v_starMany, .int v_tenants, .int v_draftSquares, .int v_draftStars, .int v_draftTenants, .int v_draftLeases, .ref a_this_s, .ref a_this_kept, .ref a_this_isKept, .ref a_this_offers, .int v_offerMany, .ref a_this_seen, .int v_seenMany])), (a_this_s, .inl (G.2.1, 100, .inl v_s))] sz)) 0 0 (va_A [(a_this, .inr (9, [.int v_thrown, .long v_trace, .ref a_this_text, .int v_typed, .int v_next, .int v_token, .int v_place, .int v_value, .int v_fault, .int v_squares, .ref a_this_stars, .ref a_this_purses, .ref a_this_leases, .int v_starMany, .int v_tenants, .int v_draftSquares, .int v_draftStars, .int v_draftTenants, .int v_draftLeases, .ref a_this_s, .ref a_this_kept, .ref a_this_isKept, .ref a_this_offers, .int v_offerMany, .ref a_this_seen, .int v_seenMany])), (a_this_s, .inl (G.2.1, 100, .inl v_s))] sz) := by
  refine Met.ofW (cc := cX9_claims) (maxL := 5) (ret := (some .int)) (by decide) rfl ?_
  intro p e s m args below meth c s₁ B hml hv
  obtain ⟨hargs, hsz, hP, hD0, hE⟩ := hv
  have hx := B.exec
  have hb := B.bytes
  have hr := B.returns
  have hts := atoms_spec (ws := wsX9_claims) B.pre
  have hown : s.vm.findClass RX9 = some m.cls := findClass_of_methodNamed B.named
  have hlocks := B.notSynchronized
  have hK := hE.1
  have hC : CallFix p m c cX9_claims 5 s args wsX9_claims RX9 := ⟨hx, hb, hml, hown, hts⟩
  have inX9 : ∀ w ∈ wsX90, w ∈ wsX9_claims := by decide +kernel
  have lk22 := hts (.fieldLink RX9 22 "SkyLeasesModel" "s" "[I") (by decide +kernel)
  have lk42 := hts (.fieldLink RX9 42 "SkyLeasesModel" "thrown" "I") (by decide +kernel)
  subst hsz
  have hD := hD0.self (sz := s.heap.size)
  generalize hAe : va_A [(a_this, .inr (9, [.int v_thrown, .long v_trace, .ref a_this_text, .int v_typed, .int v_next, .int v_token, .int v_place, .int v_value, .int v_fault, .int v_squares, .ref a_this_stars, .ref a_this_purses, .ref a_this_leases, .int v_starMany, .int v_tenants, .int v_draftSquares, .int v_draftStars, .int v_draftTenants, .int v_draftLeases, .ref a_this_s, .ref a_this_kept, .ref a_this_isKept, .ref a_this_offers, .int v_offerMany, .ref a_this_seen, .int v_seenMany])), (a_this_s, .inl (G.2.1, 100, .inl v_s))] s.heap.size = A at hD ⊢
  have hA : ∀ q : Nat, s.heap.size ≤ q → A q := fun q h => by rw [← hAe]; exact Or.inr h
  have hS : va_S A s.heap s.heap [] := va_S.rf
  have hP : va_P G.1 vwCl [(a_this, .inr (9, [.int v_thrown, .long v_trace, .ref a_this_text, .int v_typed, .int v_next, .int v_token, .int v_place, .int v_value, .int v_fault, .int v_squares, .ref a_this_stars, .ref a_this_purses, .ref a_this_leases, .int v_starMany, .int v_tenants, .int v_draftSquares, .int v_draftStars, .int v_draftTenants, .int v_draftLeases, .ref a_this_s, .ref a_this_kept, .ref a_this_isKept, .ref a_this_offers, .int v_offerMany, .ref a_this_seen, .int v_seenMany])), (a_this_s, .inl (G.2.1, 100, .inl v_s))] s.heap := hP
  have hl := lv_entry ([.ref a_this, .int g1, .int g2]) (n := 5) (Nat.le_of_ble_eq_true rfl)
  have hent : entryFrame m args 5 = F0 m 0 ((lg_sl ([.ref a_this, .int g1, .int g2]) ++ List.replicate (5 - (lg_sl ([.ref a_this, .int g1, .int g2])).length) Slot.unset).toArray) [] := by rw [hargs]; exact lg_entry_eq m [.ref a_this, .int g1, .int g2] 5
  refine W.eq hent ?_
  clear hent
  generalize (lg_sl ([.ref a_this, .int g1, .int g2]) ++ List.replicate (5 - (lg_sl ([.ref a_this, .int g1, .int g2])).length) Slot.unset).toArray = ls at hl ⊢
  have hl : lv_has ls 5 [(0, .ref a_this), (1, .int g1), (2, .int g2)] := hl
  generalize hQ : MQ below _ args s 0 0 _ = QQ
  change W p l e rm_X9_claims s m args below meth c s.heap [] 0 0 QQ _
  have j56 : ∀ (x1 : Int32), ∀ (x2 : Int32), ∀ (v_thrown : Int32), ∀ (k27 : Int32 → Int32 → Option (Int32 × Int32)), (∀ (x3 : Int32), ∀ (x4 : Int32), ∀ (ls : Array Slot), lv_has ls 5 [(0, .ref a_this), (1, .int x1), (2, .int x2), (3, .int x3), (4, .int x4)] → ∀ (H : Heap) (locs : List Loc), va_P G.1 vwCl [(a_this, .inr (9, [.int v_thrown, .long v_trace, .ref a_this_text, .int v_typed, .int v_next, .int v_token, .int v_place, .int v_value, .int v_fault, .int v_squares, .ref a_this_stars, .ref a_this_purses, .ref a_this_leases, .int v_starMany, .int v_tenants, .int v_draftSquares, .int v_draftStars, .int v_draftTenants, .int v_draftLeases, .ref a_this_s, .ref a_this_kept, .ref a_this_isKept, .ref a_this_offers, .int v_offerMany, .ref a_this_seen, .int v_seenMany])), (a_this_s, .inl (G.2.1, 100, .inl v_s))] H → va_D A [(a_this, .inr (9, [.int v_thrown, .long v_trace, .ref a_this_text, .int v_typed, .int v_next, .int v_token, .int v_place, .int v_value, .int v_fault, .int v_squares, .ref a_this_stars, .ref a_this_purses, .ref a_this_leases, .int v_starMany, .int v_tenants, .int v_draftSquares, .int v_draftStars, .int v_draftTenants, .int v_draftLeases, .ref a_this_s, .ref a_this_kept, .ref a_this_isKept, .ref a_this_offers, .int v_offerMany, .ref a_this_seen, .int v_seenMany])), (a_this_s, .inl (G.2.1, 100, .inl v_s))] → va_S A s.heap H locs → k27 x3 x4 = some (R0, R1) → W p l e rm_X9_claims s m args below meth c H locs 0 0 QQ (F0 m 27 ls [])) → ∀ (x4 : Int32), ∀ (t0 : Int32), ∀ (t1 : Int32), ∀ (ls : Array Slot), lv_has ls 5 [(0, .ref a_this), (1, .int x1), (2, .int x2), (4, .int x4)] → ∀ (H : Heap) (locs : List Loc), va_P G.1 vwCl [(a_this, .inr (9, [.int v_thrown, .long v_trace, .ref a_this_text, .int v_typed, .int v_next, .int v_token, .int v_place, .int v_value, .int v_fault, .int v_squares, .ref a_this_stars, .ref a_this_purses, .ref a_this_leases, .int v_starMany, .int v_tenants, .int v_draftSquares, .int v_draftStars, .int v_draftTenants, .int v_draftLeases, .ref a_this_s, .ref a_this_kept, .ref a_this_isKept, .ref a_this_offers, .int v_offerMany, .ref a_this_seen, .int v_seenMany])), (a_this_s, .inl (G.2.1, 100, .inl v_s))] H → va_D A [(a_this, .inr (9, [.int v_thrown, .long v_trace, .ref a_this_text, .int v_typed, .int v_next, .int v_token, .int v_place, .int v_value, .int v_fault, .int v_squares, .ref a_this_stars, .ref a_this_purses, .ref a_this_leases, .int v_starMany, .int v_tenants, .int v_draftSquares, .int v_draftStars, .int v_draftTenants, .int v_draftLeases, .ref a_this_s, .ref a_this_kept, .ref a_this_isKept, .ref a_this_offers, .int v_offerMany, .ref a_this_seen, .int v_seenMany])), (a_this_s, .inl (G.2.1, 100, .inl v_s))] → va_S A s.heap H locs → f_X9_claims_b56 k27 x4 t0 t1 = some (R0, R1) → W p l e rm_X9_claims s m args below meth c H locs 0 0 QQ (F0 m 56 ls [.int t1, .int t0]) := by
    intro x1 x2 v_thrown k27 hk27 x4 t0 t1 ls hl H locs hP hD hS hf
    unfold f_X9_claims_b56 at hf
    refine lv_iadd hx hb dX9_claims_56 ?_
    refine lv_istore_n (lv' := [(3, .int (t0 + t1)), (0, .ref a_this), (1, .int x1), (2, .int x2), (4, .int x4)]) hx hb dX9_claims_57 rfl hl (by decide) rfl (fun ls hl => ?_)
    refine lv_iinc (v := (x4 + (1 : Int32))) (lv' := [(4, .int (x4 + (1 : Int32))), (3, .int (t0 + t1)), (0, .ref a_this), (1, .int x1), (2, .int x2)]) hx hb dX9_claims_58 hl (k := 4) rfl rfl (by decide) rfl (fun ls hl => ?_)
    refine lv_goto (tgt := 27) hx hb dX9_claims_61 (by decide) ?_
    exact hk27 ((t0 + t1)) ((x4 + (1 : Int32))) ls (lv_sub hl [2, 3, 4, 1, 0] rfl) _ _ hP hD hS hf
  have j27 : ∀ (x1 : Int32), ∀ (x2 : Int32), ∀ (v_thrown : Int32), ∀ (nn : Nat), ∀ (x3 : Int32), ∀ (x4 : Int32), ∀ (ls : Array Slot), lv_has ls 5 [(0, .ref a_this), (1, .int x1), (2, .int x2), (3, .int x3), (4, .int x4)] → ∀ (H : Heap) (locs : List Loc), va_P G.1 vwCl [(a_this, .inr (9, [.int v_thrown, .long v_trace, .ref a_this_text, .int v_typed, .int v_next, .int v_token, .int v_place, .int v_value, .int v_fault, .int v_squares, .ref a_this_stars, .ref a_this_purses, .ref a_this_leases, .int v_starMany, .int v_tenants, .int v_draftSquares, .int v_draftStars, .int v_draftTenants, .int v_draftLeases, .ref a_this_s, .ref a_this_kept, .ref a_this_isKept, .ref a_this_offers, .int v_offerMany, .ref a_this_seen, .int v_seenMany])), (a_this_s, .inl (G.2.1, 100, .inl v_s))] H → va_D A [(a_this, .inr (9, [.int v_thrown, .long v_trace, .ref a_this_text, .int v_typed, .int v_next, .int v_token, .int v_place, .int v_value, .int v_fault, .int v_squares, .ref a_this_stars, .ref a_this_purses, .ref a_this_leases, .int v_starMany, .int v_tenants, .int v_draftSquares, .int v_draftStars, .int v_draftTenants, .int v_draftLeases, .ref a_this_s, .ref a_this_kept, .ref a_this_isKept, .ref a_this_offers, .int v_offerMany, .ref a_this_seen, .int v_seenMany])), (a_this_s, .inl (G.2.1, 100, .inl v_s))] → va_S A s.heap H locs → f_X9_claims_b27 v_squares v_s x1 x2 v_thrown nn x3 x4 = some (R0, R1) → W p l e rm_X9_claims s m args below meth c H locs 0 0 QQ (F0 m 27 ls []) := by
    intro x1 x2 v_thrown
    intro nn
    induction nn with
    | zero =>
      intro x3 x4 ls hl H locs hP hD hS hf
      rw [f_X9_claims_b27] at hf
      cases hf
    | succ n27 ih =>
      intro x3 x4 ls hl H locs hP hD hS hf
      rw [f_X9_claims_b27] at hf
      refine lv_iload hx hb dX9_claims_27 (lv_at hl 4 rfl) ?_
      refine lv_aload_n hx hb dX9_claims_29 rfl (lv_at hl 0 rfl) ?_
      refine va_get (D := G.1) (ci := 9) (v := .ref a_this_s) (C := RX9) (T := TX9) (N := 26) hx hb hts inX9 hown hK hP 0 rfl rfl 19 (by decide) lk22 (fun _ h9 => h9) rfl dX9_claims_30 ?_
      refine lv_bipush (v := (6 : Int32)) hx hb dX9_claims_33 (by decide) ?_
      obtain ⟨hg9, hf⟩ := gd_some hf
      refine va_iald hx hb hK hP 1 0 rfl rfl (inB_in hg9) dX9_claims_35 ?_
      refine lv_icmp_ge (tgt := 64) hx hb dX9_claims_36 (by decide) (fun hc10 => ?_) (fun hc10 => ?_)
      · have hf := if_t hf hc10
        refine lv_iload_n hx hb dX9_claims_64 rfl (lv_at hl 3 rfl) ?_
        obtain ⟨hr0, hr1⟩ := so2 hf
        subst hr0
        subst hr1
        rw [← hQ]
        exact W.iret (v := x3) hx hb hr (fun t ht hW => ⟨⟨rfl, by rw [ht]; exact hP⟩, hS.F ht⟩) hS.2.2 dX9_claims_65
      · have hf := if_f hf hc10
        refine lv_iload_n hx hb dX9_claims_39 rfl (lv_at hl 3 rfl) ?_
        refine lv_aload_n hx hb dX9_claims_40 rfl (lv_at hl 0 rfl) ?_
        refine lv_iload hx hb dX9_claims_41 (lv_at hl 4 rfl) ?_
        refine lv_iload_n hx hb dX9_claims_43 rfl (lv_at hl 1 rfl) ?_
        refine lv_iload_n hx hb dX9_claims_44 rfl (lv_at hl 2 rfl) ?_
        obtain ⟨r11, hu, hf⟩ := bd1_some hf
        refine zRi (va_runV (As := [.int x4, .int x1, .int x2]) (rest := [.int x3]) hC (c_X9_holds l G a_this a_this_s a_this_text a_this_stars a_this_purses a_this_leases a_this_kept a_this_isKept a_this_offers a_this_seen (v_thrown) (v_trace) (v_typed) (v_next) (v_token) (v_place) (v_value) (v_fault) (v_squares) (v_starMany) (v_tenants) (v_draftSquares) (v_draftStars) (v_draftTenants) (v_draftLeases) (v_offerMany) (v_seenMany) (v_s) (x4) (x1) (x2) r11 hu) (cwV 3 hts gX9_claims_X9_holds rfl rfl rfl hd_X9_holds ⟨(Nat.le_of_ble_eq_true rfl), (Nat.le_of_ble_eq_true rfl)⟩) (zPV hE hP [0, 1] rfl 0 rfl rfl) rfl rfl hl.1 rfl (lv_room (Nat.le_of_ble_eq_true rfl)) dX9_claims_45 ⟨Nat.zero_le _, Nat.zero_le _⟩) ?_
        refine lv_if_eq (tgt := 55) hx hb dX9_claims_48 (by decide) (fun hc12 => ?_) (fun hc12 => ?_)
        · have hf := if_t hf hc12
          refine lv_iconst (v := (0 : Int32)) hx hb dX9_claims_55 (by decide) ?_
          exact j56 (x1) (x2) (v_thrown) (f_X9_claims_b27 v_squares v_s x1 x2 v_thrown n27) ih (x4) (x3) ((0 : Int32)) ls (lv_sub hl [0, 1, 2, 4] rfl) _ _ hP hD hS hf
        · have hf := if_f hf hc12
          refine lv_iconst (v := (1 : Int32)) hx hb dX9_claims_51 (by decide) ?_
          refine lv_goto (tgt := 56) hx hb dX9_claims_52 (by decide) ?_
          exact j56 (x1) (x2) (v_thrown) (f_X9_claims_b27 v_squares v_s x1 x2 v_thrown n27) ih (x4) (x3) ((1 : Int32)) ls (lv_sub hl [0, 1, 2, 4] rfl) _ _ hP hD hS hf
  have hSH := hS
  unfold f_X9_claims at hf
  refine lv_aload_n hx hb dX9_claims_0 rfl (lv_at hl 0 rfl) ?_
  refine lv_iconst (v := (0 : Int32)) hx hb dX9_claims_1 (by decide) ?_
  refine va_put (D := G.1) (ci := 9) (v := .int (0 : Int32)) (ty := .int) (C := RX9) (T := TX9) (N := 26) hx hb hts inX9 tyX9 tyX9_ok nmX9 hown hK hP hD hS 0 rfl rfl 0 (by decide) lk42 (fun _ h9 => h9) rfl (by decide +kernel) rfl rfl (Nat.le_of_ble_eq_true rfl) dX9_claims_2 (fun H locs hP hD hS => ?_)
  have hP : va_P G.1 vwCl [(a_this, .inr (9, [.int (0 : Int32), .long v_trace, .ref a_this_text, .int v_typed, .int v_next, .int v_token, .int v_place, .int v_value, .int v_fault, .int v_squares, .ref a_this_stars, .ref a_this_purses, .ref a_this_leases, .int v_starMany, .int v_tenants, .int v_draftSquares, .int v_draftStars, .int v_draftTenants, .int v_draftLeases, .ref a_this_s, .ref a_this_kept, .ref a_this_isKept, .ref a_this_offers, .int v_offerMany, .ref a_this_seen, .int v_seenMany])), (a_this_s, .inl (G.2.1, 100, .inl v_s))] H := hP
  have hD : va_D A [(a_this, .inr (9, [.int (0 : Int32), .long v_trace, .ref a_this_text, .int v_typed, .int v_next, .int v_token, .int v_place, .int v_value, .int v_fault, .int v_squares, .ref a_this_stars, .ref a_this_purses, .ref a_this_leases, .int v_starMany, .int v_tenants, .int v_draftSquares, .int v_draftStars, .int v_draftTenants, .int v_draftLeases, .ref a_this_s, .ref a_this_kept, .ref a_this_isKept, .ref a_this_offers, .int v_offerMany, .ref a_this_seen, .int v_seenMany])), (a_this_s, .inl (G.2.1, 100, .inl v_s))] := hD
  refine lv_aload_n hx hb dX9_claims_5 rfl (lv_at hl 0 rfl) ?_
  refine lv_iload_n hx hb dX9_claims_6 rfl (lv_at hl 1 rfl) ?_
  obtain ⟨r13, hu, hf⟩ := bd1_some hf
  refine zRi (va_runV (As := [.int g1]) (rest := []) hC (c_X9_isSquare l G a_this a_this_text a_this_stars a_this_purses a_this_leases a_this_s a_this_kept a_this_isKept a_this_offers a_this_seen ((0 : Int32)) (v_trace) (v_typed) (v_next) (v_token) (v_place) (v_value) (v_fault) (v_squares) (v_starMany) (v_tenants) (v_draftSquares) (v_draftStars) (v_draftTenants) (v_draftLeases) (v_offerMany) (v_seenMany) (g1) r13 hu) (cwV 1 hts gX9_claims_X9_isSquare rfl rfl rfl hd_X9_isSquare ⟨(Nat.le_of_ble_eq_true rfl), (Nat.le_of_ble_eq_true rfl)⟩) (zPV hE hP [0] rfl 0 rfl rfl) rfl rfl hl.1 rfl (lv_room (Nat.le_of_ble_eq_true rfl)) dX9_claims_7 ⟨Nat.zero_le _, Nat.zero_le _⟩) ?_
  refine lv_if_eq (tgt := 20) hx hb dX9_claims_10 (by decide) (fun hc14 => ?_) (fun hc14 => ?_)
  · have hf := if_t hf hc14
    refine lv_iconst (v := (-1 : Int32)) hx hb dX9_claims_20 (by decide) ?_
    obtain ⟨hr0, hr1⟩ := so2 hf
    subst hr0
    subst hr1
    rw [← hQ]
    exact W.iret (v := (-1 : Int32)) hx hb hr (fun t ht hW => ⟨⟨rfl, by rw [ht]; exact hP⟩, hS.F ht⟩) hS.2.2 dX9_claims_21
  · have hf := if_f hf hc14
    refine lv_iload_n hx hb dX9_claims_13 rfl (lv_at hl 2 rfl) ?_
    obtain ⟨r15, hu, hf⟩ := bd1_some hf
    refine zRi (va_runS (As := [.int g2]) (rest := []) hC (c_X9_isNight l G (g2) r15 hu) (va_cwS 1 hts gX9_claims_X9_isNight rfl rfl rfl hd_X9_isNight.2 ⟨(Nat.le_of_ble_eq_true rfl), (Nat.le_of_ble_eq_true rfl)⟩) (zPS hE hP [] rfl) rfl rfl hl.1 rfl (lv_room (Nat.le_of_ble_eq_true rfl)) dX9_claims_14 ⟨Nat.zero_le _, Nat.zero_le _⟩) ?_
    refine lv_if_ne (tgt := 22) hx hb dX9_claims_17 (by decide) (fun hc16 => ?_) (fun hc16 => ?_)
    · have hf := if_f hf hc16
      refine lv_iconst (v := (0 : Int32)) hx hb dX9_claims_22 (by decide) ?_
      refine lv_istore_n (lv' := [(3, .int (0 : Int32)), (0, .ref a_this), (1, .int g1), (2, .int g2)]) hx hb dX9_claims_23 rfl hl (by decide) rfl (fun ls hl => ?_)
      refine lv_iconst (v := (0 : Int32)) hx hb dX9_claims_24 (by decide) ?_
      refine lv_istore (lv' := [(4, .int (0 : Int32)), (3, .int (0 : Int32)), (0, .ref a_this), (1, .int g1), (2, .int g2)]) hx hb dX9_claims_25 hl (by decide) rfl (fun ls hl => ?_)
      exact j27 (g1) (g2) ((0 : Int32)) zF ((0 : Int32)) ((0 : Int32)) ls (lv_sub hl [2, 3, 4, 1, 0] rfl) _ _ hP hD hS hf
    · have hf := if_t hf hc16
      refine lv_iconst (v := (-1 : Int32)) hx hb dX9_claims_20 (by decide) ?_
      obtain ⟨hr0, hr1⟩ := so2 hf
      subst hr0
      subst hr1
      rw [← hQ]
      exact W.iret (v := (-1 : Int32)) hx hb hr (fun t ht hW => ⟨⟨rfl, by rw [ht]; exact hP⟩, hS.F ht⟩) hS.2.2 dX9_claims_21
def f_X9_gcd_b6    : Nat → Int64 → Int64 → Option (Int64)
  | 0, _, _ => none
  | n6 + 1, x4, x6 => if (lg_cmp x6 (0 : Int64)) = (0 : Int32) then (some (x4)) else (gd (nzL x6) (f_X9_gcd_b6 n6 (x6) ((x4 - x4 / x6 * x6))))
def f_X9_gcd   (g0 : Int64) (g2 : Int64) : Option (Int64) := f_X9_gcd_b6 zF (g0) (g2)
abbrev rm_X9_gcd : Room := { frames := 0, cells := 0, slots := 0, locals := 0 }
set_option maxHeartbeats 4000000 in
set_option maxRecDepth 100000 in
theorem c_X9_gcd (l : Launch) (G : zG) (g0 : Int64) (g2 : Int64) (R0 : Int64) (hf : f_X9_gcd g0 g2 = some R0) : Met l yX9_gcd wsX9_gcd rm_X9_gcd (va_Pc [.long g0, .long g2] (zR G [])) (zSv (some (.long R0))) 0 0 (fun _ => False) := by
  refine Met.ofW (cc := cX9_gcd) (maxL := 10) (ret := (some .long)) (by decide) rfl ?_
  intro p e s m args below meth c s₁ B hml hv
  obtain ⟨hargs, hP, hE⟩ := hv
  have hx := B.exec
  have hb := B.bytes
  have hr := B.returns
  have hts := atoms_spec (ws := wsX9_gcd) B.pre
  have hown : s.vm.findClass RX9 = some m.cls := findClass_of_methodNamed B.named
  have hlocks := B.notSynchronized
  have hK := hE.1
  have hC : CallFix p m c cX9_gcd 10 s args wsX9_gcd RX9 := ⟨hx, hb, hml, hown, hts⟩
  have hl := lv_entry ([.long g0, .long g2]) (n := 10) (Nat.le_of_ble_eq_true rfl)
  have hent : entryFrame m args 10 = F0 m 0 ((lg_sl ([.long g0, .long g2]) ++ List.replicate (10 - (lg_sl ([.long g0, .long g2])).length) Slot.unset).toArray) [] := by rw [hargs]; exact lg_entry_eq m [.long g0, .long g2] 10
  refine W.eq hent ?_
  clear hent
  generalize (lg_sl ([.long g0, .long g2]) ++ List.replicate (10 - (lg_sl ([.long g0, .long g2])).length) Slot.unset).toArray = ls at hl ⊢
  have hl : lv_has ls 10 [(0, .long g0), (2, .long g2)] := hl
  generalize hQ : MQ below _ args s 0 0 _ = QQ
  change W p l e rm_X9_gcd s m args below meth c s.heap [] 0 0 QQ _
  have j6 : ∀ (nn : Nat), ∀ (x4 : Int64), ∀ (x6 : Int64), ∀ (ls : Array Slot), lv_has ls 10 [(4, .long x4), (6, .long x6)] → f_X9_gcd_b6 nn x4 x6 = some R0 → W p l e rm_X9_gcd s m args below meth c s.heap [] 0 0 QQ (F0 m 6 ls []) := by
    intro nn
    induction nn with
    | zero =>
      intro x4 x6 ls hl hf
      rw [f_X9_gcd_b6] at hf
      cases hf
    | succ n6 ih =>
      intro x4 x6 ls hl hf
      rw [f_X9_gcd_b6] at hf
      refine lv_lload hx hb dX9_gcd_6 (lv_at hl 1 rfl) ?_
      refine lv_lconst (v := (0 : Int64)) hx hb dX9_gcd_8 (by decide) ?_
      refine W.lcmp hx hb dX9_gcd_9 ?_
      refine lv_if_eq (tgt := 31) hx hb dX9_gcd_10 (by decide) (fun hc3 => ?_) (fun hc3 => ?_)
      · have hf := if_t hf hc3
        refine lv_lload hx hb dX9_gcd_31 (lv_at hl 0 rfl) ?_
        have hr0 := so1 hf
        subst hr0
        rw [← hQ]
        exact W.lret (v := x4) hx hb hr (fun t ht hW => ⟨rfl, ht⟩) (fun _ h => by cases h) dX9_gcd_33
      · have hf := if_f hf hc3
        refine lv_lload hx hb dX9_gcd_13 (lv_at hl 0 rfl) ?_
        refine lv_lload hx hb dX9_gcd_15 (lv_at hl 1 rfl) ?_
        obtain ⟨hg4, hf⟩ := gd_some hf
        refine lv_lrem hx hb dX9_gcd_17 (nzL_ne hg4) ?_
        refine lv_lstore (lv' := [(8, .long (x4 - x4 / x6 * x6)), (4, .long x4), (6, .long x6)]) hx hb dX9_gcd_18 hl (by decide) rfl (fun ls hl => ?_)
        refine lv_lload hx hb dX9_gcd_20 (lv_at hl 2 rfl) ?_
        refine lv_lstore (lv' := [(4, .long x6), (8, .long (x4 - x4 / x6 * x6)), (6, .long x6)]) hx hb dX9_gcd_22 hl (by decide) rfl (fun ls hl => ?_)
        refine lv_lload hx hb dX9_gcd_24 (lv_at hl 1 rfl) ?_
        refine lv_lstore (lv' := [(6, .long (x4 - x4 / x6 * x6)), (4, .long x6), (8, .long (x4 - x4 / x6 * x6))]) hx hb dX9_gcd_26 hl (by decide) rfl (fun ls hl => ?_)
        refine lv_goto (tgt := 6) hx hb dX9_gcd_28 (by decide) ?_
        exact ih (x6) ((x4 - x4 / x6 * x6)) ls (lv_sub hl [1, 0] rfl) hf
  unfold f_X9_gcd at hf
  refine lv_lload_n hx hb dX9_gcd_0 rfl (lv_at hl 0 rfl) ?_
  refine lv_lstore (lv' := [(4, .long g0), (0, .long g0), (2, .long g2)]) hx hb dX9_gcd_1 hl (by decide) rfl (fun ls hl => ?_)
  refine lv_lload_n hx hb dX9_gcd_3 rfl (lv_at hl 2 rfl) ?_
  refine lv_lstore (lv' := [(6, .long g2), (4, .long g0), (0, .long g0), (2, .long g2)]) hx hb dX9_gcd_4 hl (by decide) rfl (fun ls hl => ?_)
  exact j6 zF (g0) (g2) ls (lv_sub hl [1, 0] rfl) hf
theorem hd_X9_gcd : yX9_gcd.cls = RX9 ∧ yX9_gcd.cls ≠ "java/lang/invoke/MethodHandle" ∧ yX9_gcd.cls ≠ "java/lang/invoke/VarHandle" ∧ (parseMethodDescriptor yX9_gcd.desc).map (fun d => d.parameters.length) = some 2 := by decide +kernel
def f_X9_cycle_b49  (k9 : Int32 → Int32 → Option (Int32 × Int32))  (x1 : Int32) (x2 : Int32) (t0 : Int32) : Option (Int32 × Int32) := bd1 (f_X9_gcd (((x1).toInt64)) (((t0).toInt64))) fun r7 => gd (nzB ((r7).toInt32)) (k9 (((x1 / ((r7).toInt32)) * t0)) ((x2 + (1 : Int32))))
def f_X9_cycle_b9 (v_squares : Int32) (v_starMany : Int32) (v_stars : (Nat → Int32))  (v_thrown : Int32) : Nat → Int32 → Int32 → Option (Int32 × Int32)
  | 0, _, _ => none
  | n9 + 1, x1, x2 => if v_starMany ≤ x2 then (some (x1, v_thrown)) else (gd (inB (((3 : Int32) * x2) + (1 : Int32)) 48) (if (v_stars ((((3 : Int32) * x2) + (1 : Int32))).toNatClampNeg) = (0 : Int32) then (f_X9_cycle_b49 (f_X9_cycle_b9 v_squares v_starMany v_stars v_thrown n9) (x1) (x2) ((1 : Int32))) else (gd (inB (((3 : Int32) * x2) + (1 : Int32)) 48) (f_X9_cycle_b49 (f_X9_cycle_b9 v_squares v_starMany v_stars v_thrown n9) (x1) (x2) ((v_squares * (v_stars ((((3 : Int32) * x2) + (1 : Int32))).toNatClampNeg)))))))
def f_X9_cycle  (v_thrown : Int32) (v_squares : Int32) (v_starMany : Int32) (v_stars : (Nat → Int32))  : Option (Int32 × Int32) := f_X9_cycle_b9 v_squares v_starMany v_stars ((0 : Int32)) zF ((1 : Int32)) ((0 : Int32))
abbrev rm_X9_cycle : Room := { frames := 1, cells := 0, slots := 0, locals := 29 }
set_option maxHeartbeats 4000000 in
set_option maxRecDepth 100000 in
theorem c_X9_cycle (l : Launch) (G : zG) (sz : Nat) (a_this : Nat) (a_this_stars : Nat) (a_this_text : Nat) (a_this_purses : Nat) (a_this_leases : Nat) (a_this_s : Nat) (a_this_kept : Nat) (a_this_isKept : Nat) (a_this_offers : Nat) (a_this_seen : Nat) (v_thrown : Int32) (v_trace : Int64) (v_typed : Int32) (v_next : Int32) (v_token : Int32) (v_place : Int32) (v_value : Int32) (v_fault : Int32) (v_squares : Int32) (v_starMany : Int32) (v_tenants : Int32) (v_draftSquares : Int32) (v_draftStars : Int32) (v_draftTenants : Int32) (v_draftLeases : Int32) (v_offerMany : Int32) (v_seenMany : Int32) (v_stars : (Nat → Int32)) (R0 : Int32) (R1 : Int32) (hf : f_X9_cycle v_thrown v_squares v_starMany v_stars = some (R0, R1)) : Met l yX9_cycle wsX9_cycle rm_X9_cycle (va_Pc [.ref a_this] (zB G [(a_this, .inr (9, [.int v_thrown, .long v_trace, .ref a_this_text, .int v_typed, .int v_next, .int v_token, .int v_place, .int v_value, .int v_fault, .int v_squares, .ref a_this_stars, .ref a_this_purses, .ref a_this_leases, .int v_starMany, .int v_tenants, .int v_draftSquares, .int v_draftStars, .int v_draftTenants, .int v_draftLeases, .ref a_this_s, .ref a_this_kept, .ref a_this_isKept, .ref a_this_offers, .int v_offerMany, .ref a_this_seen, .int v_seenMany])), (a_this_stars, .inl (G.2.1, 48, .inl v_stars))] sz)) (zQ G (some (.int R0)) [(a_this, .inr (9, [.int R1, .long v_trace, .ref a_this_text, .int v_typed, .int v_next, .int v_token, .int v_place, .int v_value, .int v_fault, .int v_squares, .ref a_this_stars, .ref a_this_purses, .ref a_this_leases, .int v_starMany, .int v_tenants, .int v_draftSquares, .int v_draftStars, .int v_draftTenants, .int v_draftLeases, .ref a_this_s, .ref a_this_kept, .ref a_this_isKept, .ref a_this_offers, .int v_offerMany, .ref a_this_seen, .int v_seenMany])), (a_this_stars, .inl (G.2.1, 48, .inl v_stars))] (va_A [(a_this, .inr (9, [.int v_thrown, .long v_trace, .ref a_this_text, .int v_typed, .int v_next, .int v_token, .int v_place, .int v_value, .int v_fault, .int v_squares, .ref a_this_stars, .ref a_this_purses, .ref a_this_leases, .int v_starMany, .int v_tenants, .int v_draftSquares, .int v_draftStars, .int v_draftTenants, .int v_draftLeases, .ref a_this_s, .ref a_this_kept, .ref a_this_isKept, .ref a_this_offers, .int v_offerMany, .ref a_this_seen, .int v_seenMany])), (a_this_stars, .inl (G.2.1, 48, .inl v_stars))] sz)) 0 0 (va_A [(a_this, .inr (9, [.int v_thrown, .long v_trace, .ref a_this_text, .int v_typed, .int v_next, .int v_token, .int v_place, .int v_value, .int v_fault, .int v_squares, .ref a_this_stars, .ref a_this_purses, .ref a_this_leases, .int v_starMany, .int v_tenants, .int v_draftSquares, .int v_draftStars, .int v_draftTenants, .int v_draftLeases, .ref a_this_s, .ref a_this_kept, .ref a_this_isKept, .ref a_this_offers, .int v_offerMany, .ref a_this_seen, .int v_seenMany])), (a_this_stars, .inl (G.2.1, 48, .inl v_stars))] sz) := by
  refine Met.ofW (cc := cX9_cycle) (maxL := 4) (ret := (some .int)) (by decide) rfl ?_
  intro p e s m args below meth c s₁ B hml hv
  obtain ⟨hargs, hsz, hP, hD0, hE⟩ := hv
  have hx := B.exec
  have hb := B.bytes
  have hr := B.returns
  have hts := atoms_spec (ws := wsX9_cycle) B.pre
  have hown : s.vm.findClass RX9 = some m.cls := findClass_of_methodNamed B.named
  have hlocks := B.notSynchronized
  have hK := hE.1
  have hC : CallFix p m c cX9_cycle 4 s args wsX9_cycle RX9 := ⟨hx, hb, hml, hown, hts⟩
  have inX9 : ∀ w ∈ wsX90, w ∈ wsX9_cycle := by decide +kernel
  have lk13 := hts (.fieldLink RX9 13 "SkyLeasesModel" "stars" "[I") (by decide +kernel)
  have lk38 := hts (.fieldLink RX9 38 "SkyLeasesModel" "squares" "I") (by decide +kernel)
  have lk42 := hts (.fieldLink RX9 42 "SkyLeasesModel" "thrown" "I") (by decide +kernel)
  have lk118 := hts (.fieldLink RX9 118 "SkyLeasesModel" "starMany" "I") (by decide +kernel)
  subst hsz
  have hD := hD0.self (sz := s.heap.size)
  generalize hAe : va_A [(a_this, .inr (9, [.int v_thrown, .long v_trace, .ref a_this_text, .int v_typed, .int v_next, .int v_token, .int v_place, .int v_value, .int v_fault, .int v_squares, .ref a_this_stars, .ref a_this_purses, .ref a_this_leases, .int v_starMany, .int v_tenants, .int v_draftSquares, .int v_draftStars, .int v_draftTenants, .int v_draftLeases, .ref a_this_s, .ref a_this_kept, .ref a_this_isKept, .ref a_this_offers, .int v_offerMany, .ref a_this_seen, .int v_seenMany])), (a_this_stars, .inl (G.2.1, 48, .inl v_stars))] s.heap.size = A at hD ⊢
  have hA : ∀ q : Nat, s.heap.size ≤ q → A q := fun q h => by rw [← hAe]; exact Or.inr h
  have hS : va_S A s.heap s.heap [] := va_S.rf
  have hP : va_P G.1 vwCl [(a_this, .inr (9, [.int v_thrown, .long v_trace, .ref a_this_text, .int v_typed, .int v_next, .int v_token, .int v_place, .int v_value, .int v_fault, .int v_squares, .ref a_this_stars, .ref a_this_purses, .ref a_this_leases, .int v_starMany, .int v_tenants, .int v_draftSquares, .int v_draftStars, .int v_draftTenants, .int v_draftLeases, .ref a_this_s, .ref a_this_kept, .ref a_this_isKept, .ref a_this_offers, .int v_offerMany, .ref a_this_seen, .int v_seenMany])), (a_this_stars, .inl (G.2.1, 48, .inl v_stars))] s.heap := hP
  have hl := lv_entry ([.ref a_this]) (n := 4) (Nat.le_of_ble_eq_true rfl)
  have hent : entryFrame m args 4 = F0 m 0 ((lg_sl ([.ref a_this]) ++ List.replicate (4 - (lg_sl ([.ref a_this])).length) Slot.unset).toArray) [] := by rw [hargs]; exact lg_entry_eq m [.ref a_this] 4
  refine W.eq hent ?_
  clear hent
  generalize (lg_sl ([.ref a_this]) ++ List.replicate (4 - (lg_sl ([.ref a_this])).length) Slot.unset).toArray = ls at hl ⊢
  have hl : lv_has ls 4 [(0, .ref a_this)] := hl
  generalize hQ : MQ below _ args s 0 0 _ = QQ
  change W p l e rm_X9_cycle s m args below meth c s.heap [] 0 0 QQ _
  have j49 : ∀ (v_thrown : Int32), ∀ (k9 : Int32 → Int32 → Option (Int32 × Int32)), (∀ (x1 : Int32), ∀ (x2 : Int32), ∀ (ls : Array Slot), lv_has ls 4 [(0, .ref a_this), (1, .int x1), (2, .int x2)] → ∀ (H : Heap) (locs : List Loc), va_P G.1 vwCl [(a_this, .inr (9, [.int v_thrown, .long v_trace, .ref a_this_text, .int v_typed, .int v_next, .int v_token, .int v_place, .int v_value, .int v_fault, .int v_squares, .ref a_this_stars, .ref a_this_purses, .ref a_this_leases, .int v_starMany, .int v_tenants, .int v_draftSquares, .int v_draftStars, .int v_draftTenants, .int v_draftLeases, .ref a_this_s, .ref a_this_kept, .ref a_this_isKept, .ref a_this_offers, .int v_offerMany, .ref a_this_seen, .int v_seenMany])), (a_this_stars, .inl (G.2.1, 48, .inl v_stars))] H → va_D A [(a_this, .inr (9, [.int v_thrown, .long v_trace, .ref a_this_text, .int v_typed, .int v_next, .int v_token, .int v_place, .int v_value, .int v_fault, .int v_squares, .ref a_this_stars, .ref a_this_purses, .ref a_this_leases, .int v_starMany, .int v_tenants, .int v_draftSquares, .int v_draftStars, .int v_draftTenants, .int v_draftLeases, .ref a_this_s, .ref a_this_kept, .ref a_this_isKept, .ref a_this_offers, .int v_offerMany, .ref a_this_seen, .int v_seenMany])), (a_this_stars, .inl (G.2.1, 48, .inl v_stars))] → va_S A s.heap H locs → k9 x1 x2 = some (R0, R1) → W p l e rm_X9_cycle s m args below meth c H locs 0 0 QQ (F0 m 9 ls [])) → ∀ (x1 : Int32), ∀ (x2 : Int32), ∀ (t0 : Int32), ∀ (ls : Array Slot), lv_has ls 4 [(0, .ref a_this), (1, .int x1), (2, .int x2)] → ∀ (H : Heap) (locs : List Loc), va_P G.1 vwCl [(a_this, .inr (9, [.int v_thrown, .long v_trace, .ref a_this_text, .int v_typed, .int v_next, .int v_token, .int v_place, .int v_value, .int v_fault, .int v_squares, .ref a_this_stars, .ref a_this_purses, .ref a_this_leases, .int v_starMany, .int v_tenants, .int v_draftSquares, .int v_draftStars, .int v_draftTenants, .int v_draftLeases, .ref a_this_s, .ref a_this_kept, .ref a_this_isKept, .ref a_this_offers, .int v_offerMany, .ref a_this_seen, .int v_seenMany])), (a_this_stars, .inl (G.2.1, 48, .inl v_stars))] H → va_D A [(a_this, .inr (9, [.int v_thrown, .long v_trace, .ref a_this_text, .int v_typed, .int v_next, .int v_token, .int v_place, .int v_value, .int v_fault, .int v_squares, .ref a_this_stars, .ref a_this_purses, .ref a_this_leases, .int v_starMany, .int v_tenants, .int v_draftSquares, .int v_draftStars, .int v_draftTenants, .int v_draftLeases, .ref a_this_s, .ref a_this_kept, .ref a_this_isKept, .ref a_this_offers, .int v_offerMany, .ref a_this_seen, .int v_seenMany])), (a_this_stars, .inl (G.2.1, 48, .inl v_stars))] → va_S A s.heap H locs → f_X9_cycle_b49 k9 x1 x2 t0 = some (R0, R1) → W p l e rm_X9_cycle s m args below meth c H locs 0 0 QQ (F0 m 49 ls [.int t0]) := by
    intro v_thrown k9 hk9 x1 x2 t0 ls hl H locs hP hD hS hf
    unfold f_X9_cycle_b49 at hf
    refine lv_istore_n (lv' := [(3, .int t0), (0, .ref a_this), (1, .int x1), (2, .int x2)]) hx hb dX9_cycle_49 rfl hl (by decide) rfl (fun ls hl => ?_)
    refine lv_iload_n hx hb dX9_cycle_50 rfl (lv_at hl 2 rfl) ?_
    refine lv_iload_n hx hb dX9_cycle_51 rfl (lv_at hl 2 rfl) ?_
    refine lv_i2l (v := ((x1).toInt64)) hx hb dX9_cycle_52 rfl ?_
    refine lv_iload_n hx hb dX9_cycle_53 rfl (lv_at hl 0 rfl) ?_
    refine lv_i2l (v := ((t0).toInt64)) hx hb dX9_cycle_54 rfl ?_
    obtain ⟨r7, hu, hf⟩ := bd1_some hf
    refine zRl (va_runS (As := [.long ((x1).toInt64), .long ((t0).toInt64)]) (rest := [.int x1]) hC (c_X9_gcd l G (((x1).toInt64)) (((t0).toInt64)) r7 hu) (va_cwS 2 hts gX9_cycle_X9_gcd rfl rfl rfl hd_X9_gcd.2 ⟨(Nat.le_of_ble_eq_true rfl), (Nat.le_of_ble_eq_true rfl)⟩) (zPS hE hP [] rfl) rfl rfl hl.1 rfl (lv_room (Nat.le_of_ble_eq_true rfl)) dX9_cycle_55 ⟨Nat.zero_le _, Nat.zero_le _⟩) ?_
    refine lv_l2i (v := ((r7).toInt32)) hx hb dX9_cycle_58 rfl ?_
    obtain ⟨hg8, hf⟩ := gd_some hf
    refine lv_idiv hx hb dX9_cycle_59 (nzB_ne hg8) ?_
    refine lv_iload_n hx hb dX9_cycle_60 rfl (lv_at hl 0 rfl) ?_
    refine lv_imul hx hb dX9_cycle_61 ?_
    refine lv_istore_n (lv' := [(1, .int ((x1 / ((r7).toInt32)) * t0)), (3, .int t0), (0, .ref a_this), (2, .int x2)]) hx hb dX9_cycle_62 rfl hl (by decide) rfl (fun ls hl => ?_)
    refine lv_iinc (v := (x2 + (1 : Int32))) (lv' := [(2, .int (x2 + (1 : Int32))), (1, .int ((x1 / ((r7).toInt32)) * t0)), (3, .int t0), (0, .ref a_this)]) hx hb dX9_cycle_63 hl (k := 3) rfl rfl (by decide) rfl (fun ls hl => ?_)
    refine lv_goto (tgt := 9) hx hb dX9_cycle_66 (by decide) ?_
    exact hk9 (((x1 / ((r7).toInt32)) * t0)) ((x2 + (1 : Int32))) ls (lv_sub hl [3, 1, 0] rfl) _ _ hP hD hS hf
  have j9 : ∀ (v_thrown : Int32), ∀ (nn : Nat), ∀ (x1 : Int32), ∀ (x2 : Int32), ∀ (ls : Array Slot), lv_has ls 4 [(0, .ref a_this), (1, .int x1), (2, .int x2)] → ∀ (H : Heap) (locs : List Loc), va_P G.1 vwCl [(a_this, .inr (9, [.int v_thrown, .long v_trace, .ref a_this_text, .int v_typed, .int v_next, .int v_token, .int v_place, .int v_value, .int v_fault, .int v_squares, .ref a_this_stars, .ref a_this_purses, .ref a_this_leases, .int v_starMany, .int v_tenants, .int v_draftSquares, .int v_draftStars, .int v_draftTenants, .int v_draftLeases, .ref a_this_s, .ref a_this_kept, .ref a_this_isKept, .ref a_this_offers, .int v_offerMany, .ref a_this_seen, .int v_seenMany])), (a_this_stars, .inl (G.2.1, 48, .inl v_stars))] H → va_D A [(a_this, .inr (9, [.int v_thrown, .long v_trace, .ref a_this_text, .int v_typed, .int v_next, .int v_token, .int v_place, .int v_value, .int v_fault, .int v_squares, .ref a_this_stars, .ref a_this_purses, .ref a_this_leases, .int v_starMany, .int v_tenants, .int v_draftSquares, .int v_draftStars, .int v_draftTenants, .int v_draftLeases, .ref a_this_s, .ref a_this_kept, .ref a_this_isKept, .ref a_this_offers, .int v_offerMany, .ref a_this_seen, .int v_seenMany])), (a_this_stars, .inl (G.2.1, 48, .inl v_stars))] → va_S A s.heap H locs → f_X9_cycle_b9 v_squares v_starMany v_stars v_thrown nn x1 x2 = some (R0, R1) → W p l e rm_X9_cycle s m args below meth c H locs 0 0 QQ (F0 m 9 ls []) := by
    intro v_thrown
    intro nn
    induction nn with
    | zero =>
      intro x1 x2 ls hl H locs hP hD hS hf
      rw [f_X9_cycle_b9] at hf
      cases hf
    | succ n9 ih =>
      intro x1 x2 ls hl H locs hP hD hS hf
      rw [f_X9_cycle_b9] at hf
      refine lv_iload_n hx hb dX9_cycle_9 rfl (lv_at hl 2 rfl) ?_
      refine lv_aload_n hx hb dX9_cycle_10 rfl (lv_at hl 0 rfl) ?_
      refine va_get (D := G.1) (ci := 9) (v := .int v_starMany) (C := RX9) (T := TX9) (N := 26) hx hb hts inX9 hown hK hP 0 rfl rfl 13 (by decide) lk118 (fun _ h9 => h9) rfl dX9_cycle_11 ?_
      refine lv_icmp_ge (tgt := 69) hx hb dX9_cycle_14 (by decide) (fun hc9 => ?_) (fun hc9 => ?_)
      · have hf := if_t hf hc9
        refine lv_iload_n hx hb dX9_cycle_69 rfl (lv_at hl 1 rfl) ?_
        obtain ⟨hr0, hr1⟩ := so2 hf
        subst hr0
        subst hr1
        rw [← hQ]
        exact W.iret (v := x1) hx hb hr (fun t ht hW => ⟨⟨rfl, by rw [ht]; exact hP⟩, hS.F ht⟩) hS.2.2 dX9_cycle_70
      · have hf := if_f hf hc9
        refine lv_aload_n hx hb dX9_cycle_17 rfl (lv_at hl 0 rfl) ?_
        refine va_get (D := G.1) (ci := 9) (v := .ref a_this_stars) (C := RX9) (T := TX9) (N := 26) hx hb hts inX9 hown hK hP 0 rfl rfl 10 (by decide) lk13 (fun _ h9 => h9) rfl dX9_cycle_18 ?_
        refine lv_iconst (v := (3 : Int32)) hx hb dX9_cycle_21 (by decide) ?_
        refine lv_iload_n hx hb dX9_cycle_22 rfl (lv_at hl 2 rfl) ?_
        refine lv_imul hx hb dX9_cycle_23 ?_
        refine lv_iconst (v := (1 : Int32)) hx hb dX9_cycle_24 (by decide) ?_
        refine lv_iadd hx hb dX9_cycle_25 ?_
        obtain ⟨hg10, hf⟩ := gd_some hf
        refine va_iald hx hb hK hP 1 0 rfl rfl (inB_in hg10) dX9_cycle_26 ?_
        refine lv_if_ne (tgt := 34) hx hb dX9_cycle_27 (by decide) (fun hc11 => ?_) (fun hc11 => ?_)
        · have hf := if_f hf hc11
          refine lv_aload_n hx hb dX9_cycle_34 rfl (lv_at hl 0 rfl) ?_
          refine va_get (D := G.1) (ci := 9) (v := .int v_squares) (C := RX9) (T := TX9) (N := 26) hx hb hts inX9 hown hK hP 0 rfl rfl 9 (by decide) lk38 (fun _ h9 => h9) rfl dX9_cycle_35 ?_
          refine lv_aload_n hx hb dX9_cycle_38 rfl (lv_at hl 0 rfl) ?_
          refine va_get (D := G.1) (ci := 9) (v := .ref a_this_stars) (C := RX9) (T := TX9) (N := 26) hx hb hts inX9 hown hK hP 0 rfl rfl 10 (by decide) lk13 (fun _ h9 => h9) rfl dX9_cycle_39 ?_
          refine lv_iconst (v := (3 : Int32)) hx hb dX9_cycle_42 (by decide) ?_
          refine lv_iload_n hx hb dX9_cycle_43 rfl (lv_at hl 2 rfl) ?_
          refine lv_imul hx hb dX9_cycle_44 ?_
          refine lv_iconst (v := (1 : Int32)) hx hb dX9_cycle_45 (by decide) ?_
          refine lv_iadd hx hb dX9_cycle_46 ?_
          obtain ⟨hg12, hf⟩ := gd_some hf
          refine va_iald hx hb hK hP 1 0 rfl rfl (inB_in hg12) dX9_cycle_47 ?_
          refine lv_imul hx hb dX9_cycle_48 ?_
          exact j49 (v_thrown) (f_X9_cycle_b9 v_squares v_starMany v_stars v_thrown n9) ih (x1) (x2) ((v_squares * (v_stars ((((3 : Int32) * x2) + (1 : Int32))).toNatClampNeg))) ls (lv_sub hl [0, 1, 2] rfl) _ _ hP hD hS hf
        · have hf := if_t hf hc11
          refine lv_iconst (v := (1 : Int32)) hx hb dX9_cycle_30 (by decide) ?_
          refine lv_goto (tgt := 49) hx hb dX9_cycle_31 (by decide) ?_
          exact j49 (v_thrown) (f_X9_cycle_b9 v_squares v_starMany v_stars v_thrown n9) ih (x1) (x2) ((1 : Int32)) ls (lv_sub hl [0, 1, 2] rfl) _ _ hP hD hS hf
  have hSH := hS
  unfold f_X9_cycle at hf
  refine lv_aload_n hx hb dX9_cycle_0 rfl (lv_at hl 0 rfl) ?_
  refine lv_iconst (v := (0 : Int32)) hx hb dX9_cycle_1 (by decide) ?_
  refine va_put (D := G.1) (ci := 9) (v := .int (0 : Int32)) (ty := .int) (C := RX9) (T := TX9) (N := 26) hx hb hts inX9 tyX9 tyX9_ok nmX9 hown hK hP hD hS 0 rfl rfl 0 (by decide) lk42 (fun _ h9 => h9) rfl (by decide +kernel) rfl rfl (Nat.le_of_ble_eq_true rfl) dX9_cycle_2 (fun H locs hP hD hS => ?_)
  have hP : va_P G.1 vwCl [(a_this, .inr (9, [.int (0 : Int32), .long v_trace, .ref a_this_text, .int v_typed, .int v_next, .int v_token, .int v_place, .int v_value, .int v_fault, .int v_squares, .ref a_this_stars, .ref a_this_purses, .ref a_this_leases, .int v_starMany, .int v_tenants, .int v_draftSquares, .int v_draftStars, .int v_draftTenants, .int v_draftLeases, .ref a_this_s, .ref a_this_kept, .ref a_this_isKept, .ref a_this_offers, .int v_offerMany, .ref a_this_seen, .int v_seenMany])), (a_this_stars, .inl (G.2.1, 48, .inl v_stars))] H := hP
  have hD : va_D A [(a_this, .inr (9, [.int (0 : Int32), .long v_trace, .ref a_this_text, .int v_typed, .int v_next, .int v_token, .int v_place, .int v_value, .int v_fault, .int v_squares, .ref a_this_stars, .ref a_this_purses, .ref a_this_leases, .int v_starMany, .int v_tenants, .int v_draftSquares, .int v_draftStars, .int v_draftTenants, .int v_draftLeases, .ref a_this_s, .ref a_this_kept, .ref a_this_isKept, .ref a_this_offers, .int v_offerMany, .ref a_this_seen, .int v_seenMany])), (a_this_stars, .inl (G.2.1, 48, .inl v_stars))] := hD
  refine lv_iconst (v := (1 : Int32)) hx hb dX9_cycle_5 (by decide) ?_
  refine lv_istore_n (lv' := [(1, .int (1 : Int32)), (0, .ref a_this)]) hx hb dX9_cycle_6 rfl hl (by decide) rfl (fun ls hl => ?_)
  refine lv_iconst (v := (0 : Int32)) hx hb dX9_cycle_7 (by decide) ?_
  refine lv_istore_n (lv' := [(2, .int (0 : Int32)), (1, .int (1 : Int32)), (0, .ref a_this)]) hx hb dX9_cycle_8 rfl hl (by decide) rfl (fun ls hl => ?_)
  exact j9 ((0 : Int32)) zF ((1 : Int32)) ((0 : Int32)) ls (lv_sub hl [2, 1, 0] rfl) _ _ hP hD hS hf
def f_X9_night_b125  (k58 : Int32 → (Nat → Int32) → Option (Int32 × Int32 × (Nat → Int32)))  (x2 : Int32) (v_s : (Nat → Int32)) : Option (Int32 × Int32 × (Nat → Int32)) := k58 ((x2 + (1 : Int32))) (v_s)
def f_X9_night_b58 (v_squares : Int32) (v_starMany : Int32) (v_stars : (Nat → Int32))  (x1 : Int32) (v_thrown : Int32) : Nat → Int32 → (Nat → Int32) → Option (Int32 × Int32 × (Nat → Int32))
  | 0, _, _ => none
  | n58 + 1, x2, v_s => if v_starMany ≤ x2 then (gd (inB (0 : Int32) 100) (gd (inB (0 : Int32) 100) (nm (upd v_s ((0 : Int32)).toNatClampNeg ((v_s ((0 : Int32)).toNatClampNeg) + (1 : Int32))) fun y26 => some (x1, v_thrown, y26)))) else (gd (inB (0 : Int32) 100) (bd1 (f_X9_squareOf (v_squares) (v_stars) (x2) ((v_s ((0 : Int32)).toNatClampNeg))) fun r28 => gd (inB (0 : Int32) 100) (bd1 (f_X9_whoseIs (v_squares) (v_s) (r28) ((v_s ((0 : Int32)).toNatClampNeg))) fun r30 => if r28 = x1 then (f_X9_night_b125 (f_X9_night_b58 v_squares v_starMany v_stars x1 v_thrown n58) (x2) (v_s)) else (if r30 = (-9 : Int32) then (f_X9_night_b125 (f_X9_night_b58 v_squares v_starMany v_stars x1 v_thrown n58) (x2) (v_s)) else (gd (inB ((2 : Int32) + r30) 100) (gd (inB (((3 : Int32) * x2) + (2 : Int32)) 48) (gd (inB ((2 : Int32) + r30) 100) (nm (upd v_s (((2 : Int32) + r30)).toNatClampNeg ((v_s (((2 : Int32) + r30)).toNatClampNeg) + (v_stars ((((3 : Int32) * x2) + (2 : Int32))).toNatClampNeg))) fun y36 => f_X9_night_b125 (f_X9_night_b58 v_squares v_starMany v_stars x1 v_thrown n58) (x2) (y36)))))))))
def f_X9_night  (v_thrown : Int32) (v_squares : Int32) (v_starMany : Int32) (v_s : (Nat → Int32)) (v_stars : (Nat → Int32))  : Option (Int32 × Int32 × (Nat → Int32)) := gd (inB (0 : Int32) 100) (if (v_s ((0 : Int32)).toNatClampNeg) = (99 : Int32) then (some ((-2 : Int32), (0 : Int32), v_s)) else (gd (inB (1 : Int32) 100) (gd (inB (1 : Int32) 100) (nm (upd v_s ((1 : Int32)).toNatClampNeg (((v_s ((1 : Int32)).toNatClampNeg) * (1103515245 : Int32)) + (12345 : Int32))) fun y41 => gd (inB (1 : Int32) 100) (gd (nzB v_squares) (nm (((((y41 ((1 : Int32)).toNatClampNeg) >>> ((16 : Int32) &&& (31 : Int32))) &&& (65535 : Int32)) - (((y41 ((1 : Int32)).toNatClampNeg) >>> ((16 : Int32) &&& (31 : Int32))) &&& (65535 : Int32)) / v_squares * v_squares)) fun y44 => f_X9_night_b58 v_squares v_starMany v_stars (y44) ((0 : Int32)) zF ((0 : Int32)) (y41)))))))
abbrev rm_X9_night : Room := { frames := 3, cells := 0, slots := 0, locals := 70 }
set_option maxHeartbeats 4000000 in
set_option maxRecDepth 100000 in
theorem c_X9_night (l : Launch) (G : zG) (sz : Nat) (a_this : Nat) (a_this_s : Nat) (a_this_stars : Nat) (a_this_text : Nat) (a_this_purses : Nat) (a_this_leases : Nat) (a_this_kept : Nat) (a_this_isKept : Nat) (a_this_offers : Nat) (a_this_seen : Nat) (v_thrown : Int32) (v_trace : Int64) (v_typed : Int32) (v_next : Int32) (v_token : Int32) (v_place : Int32) (v_value : Int32) (v_fault : Int32) (v_squares : Int32) (v_starMany : Int32) (v_tenants : Int32) (v_draftSquares : Int32) (v_draftStars : Int32) (v_draftTenants : Int32) (v_draftLeases : Int32) (v_offerMany : Int32) (v_seenMany : Int32) (v_s : (Nat → Int32)) (v_stars : (Nat → Int32)) (R0 : Int32) (R1 : Int32) (R2 : (Nat → Int32)) (hf : f_X9_night v_thrown v_squares v_starMany v_s v_stars = some (R0, R1, R2)) : Met l yX9_night wsX9_night rm_X9_night (va_Pc [.ref a_this] (zB G [(a_this, .inr (9, [.int v_thrown, .long v_trace, .ref a_this_text, .int v_typed, .int v_next, .int v_token, .int v_place, .int v_value, .int v_fault, .int v_squares, .ref a_this_stars, .ref a_this_purses, .ref a_this_leases, .int v_starMany, .int v_tenants, .int v_draftSquares, .int v_draftStars, .int v_draftTenants, .int v_draftLeases, .ref a_this_s, .ref a_this_kept, .ref a_this_isKept, .ref a_this_offers, .int v_offerMany, .ref a_this_seen, .int v_seenMany])), (a_this_s, .inl (G.2.1, 100, .inl v_s)), (a_this_stars, .inl (G.2.1, 48, .inl v_stars))] sz)) (zQ G (some (.int R0)) [(a_this, .inr (9, [.int R1, .long v_trace, .ref a_this_text, .int v_typed, .int v_next, .int v_token, .int v_place, .int v_value, .int v_fault, .int v_squares, .ref a_this_stars, .ref a_this_purses, .ref a_this_leases, .int v_starMany, .int v_tenants, .int v_draftSquares, .int v_draftStars, .int v_draftTenants, .int v_draftLeases, .ref a_this_s, .ref a_this_kept, .ref a_this_isKept, .ref a_this_offers, .int v_offerMany, .ref a_this_seen, .int v_seenMany])), (a_this_s, .inl (G.2.1, 100, .inl R2)), (a_this_stars, .inl (G.2.1, 48, .inl v_stars))] (va_A [(a_this, .inr (9, [.int v_thrown, .long v_trace, .ref a_this_text, .int v_typed, .int v_next, .int v_token, .int v_place, .int v_value, .int v_fault, .int v_squares, .ref a_this_stars, .ref a_this_purses, .ref a_this_leases, .int v_starMany, .int v_tenants, .int v_draftSquares, .int v_draftStars, .int v_draftTenants, .int v_draftLeases, .ref a_this_s, .ref a_this_kept, .ref a_this_isKept, .ref a_this_offers, .int v_offerMany, .ref a_this_seen, .int v_seenMany])), (a_this_s, .inl (G.2.1, 100, .inl v_s)), (a_this_stars, .inl (G.2.1, 48, .inl v_stars))] sz)) 0 0 (va_A [(a_this, .inr (9, [.int v_thrown, .long v_trace, .ref a_this_text, .int v_typed, .int v_next, .int v_token, .int v_place, .int v_value, .int v_fault, .int v_squares, .ref a_this_stars, .ref a_this_purses, .ref a_this_leases, .int v_starMany, .int v_tenants, .int v_draftSquares, .int v_draftStars, .int v_draftTenants, .int v_draftLeases, .ref a_this_s, .ref a_this_kept, .ref a_this_isKept, .ref a_this_offers, .int v_offerMany, .ref a_this_seen, .int v_seenMany])), (a_this_s, .inl (G.2.1, 100, .inl v_s)), (a_this_stars, .inl (G.2.1, 48, .inl v_stars))] sz) := by
  refine Met.ofW (cc := cX9_night) (maxL := 5) (ret := (some .int)) (by decide) rfl ?_
  intro p e s m args below meth c s₁ B hml hv
  obtain ⟨hargs, hsz, hP, hD0, hE⟩ := hv
  have hx := B.exec
  have hb := B.bytes
  have hr := B.returns
  have hts := atoms_spec (ws := wsX9_night) B.pre
  have hown : s.vm.findClass RX9 = some m.cls := findClass_of_methodNamed B.named
  have hlocks := B.notSynchronized
  have hK := hE.1
  have hC : CallFix p m c cX9_night 5 s args wsX9_night RX9 := ⟨hx, hb, hml, hown, hts⟩
  have inX9 : ∀ w ∈ wsX90, w ∈ wsX9_night := by decide +kernel
  have lk13 := hts (.fieldLink RX9 13 "SkyLeasesModel" "stars" "[I") (by decide +kernel)
  have lk22 := hts (.fieldLink RX9 22 "SkyLeasesModel" "s" "[I") (by decide +kernel)
  have lk38 := hts (.fieldLink RX9 38 "SkyLeasesModel" "squares" "I") (by decide +kernel)
  have lk42 := hts (.fieldLink RX9 42 "SkyLeasesModel" "thrown" "I") (by decide +kernel)
  have lk118 := hts (.fieldLink RX9 118 "SkyLeasesModel" "starMany" "I") (by decide +kernel)
  subst hsz
  have hD := hD0.self (sz := s.heap.size)
  generalize hAe : va_A [(a_this, .inr (9, [.int v_thrown, .long v_trace, .ref a_this_text, .int v_typed, .int v_next, .int v_token, .int v_place, .int v_value, .int v_fault, .int v_squares, .ref a_this_stars, .ref a_this_purses, .ref a_this_leases, .int v_starMany, .int v_tenants, .int v_draftSquares, .int v_draftStars, .int v_draftTenants, .int v_draftLeases, .ref a_this_s, .ref a_this_kept, .ref a_this_isKept, .ref a_this_offers, .int v_offerMany, .ref a_this_seen, .int v_seenMany])), (a_this_s, .inl (G.2.1, 100, .inl v_s)), (a_this_stars, .inl (G.2.1, 48, .inl v_stars))] s.heap.size = A at hD ⊢
  have hA : ∀ q : Nat, s.heap.size ≤ q → A q := fun q h => by rw [← hAe]; exact Or.inr h
  have hS : va_S A s.heap s.heap [] := va_S.rf
  have hP : va_P G.1 vwCl [(a_this, .inr (9, [.int v_thrown, .long v_trace, .ref a_this_text, .int v_typed, .int v_next, .int v_token, .int v_place, .int v_value, .int v_fault, .int v_squares, .ref a_this_stars, .ref a_this_purses, .ref a_this_leases, .int v_starMany, .int v_tenants, .int v_draftSquares, .int v_draftStars, .int v_draftTenants, .int v_draftLeases, .ref a_this_s, .ref a_this_kept, .ref a_this_isKept, .ref a_this_offers, .int v_offerMany, .ref a_this_seen, .int v_seenMany])), (a_this_s, .inl (G.2.1, 100, .inl v_s)), (a_this_stars, .inl (G.2.1, 48, .inl v_stars))] s.heap := hP
  have hl := lv_entry ([.ref a_this]) (n := 5) (Nat.le_of_ble_eq_true rfl)
  have hent : entryFrame m args 5 = F0 m 0 ((lg_sl ([.ref a_this]) ++ List.replicate (5 - (lg_sl ([.ref a_this])).length) Slot.unset).toArray) [] := by rw [hargs]; exact lg_entry_eq m [.ref a_this] 5
  refine W.eq hent ?_
  clear hent
  generalize (lg_sl ([.ref a_this]) ++ List.replicate (5 - (lg_sl ([.ref a_this])).length) Slot.unset).toArray = ls at hl ⊢
  have hl : lv_has ls 5 [(0, .ref a_this)] := hl
  generalize hQ : MQ below _ args s 0 0 _ = QQ
  change W p l e rm_X9_night s m args below meth c s.heap [] 0 0 QQ _
  have j125 : ∀ (x1 : Int32), ∀ (v_thrown : Int32), ∀ (k58 : Int32 → (Nat → Int32) → Option (Int32 × Int32 × (Nat → Int32))), (∀ (x2 : Int32), ∀ (v_s : (Nat → Int32)), ∀ (ls : Array Slot), lv_has ls 5 [(0, .ref a_this), (1, .int x1), (2, .int x2)] → ∀ (H : Heap) (locs : List Loc), va_P G.1 vwCl [(a_this, .inr (9, [.int v_thrown, .long v_trace, .ref a_this_text, .int v_typed, .int v_next, .int v_token, .int v_place, .int v_value, .int v_fault, .int v_squares, .ref a_this_stars, .ref a_this_purses, .ref a_this_leases, .int v_starMany, .int v_tenants, .int v_draftSquares, .int v_draftStars, .int v_draftTenants, .int v_draftLeases, .ref a_this_s, .ref a_this_kept, .ref a_this_isKept, .ref a_this_offers, .int v_offerMany, .ref a_this_seen, .int v_seenMany])), (a_this_s, .inl (G.2.1, 100, .inl v_s)), (a_this_stars, .inl (G.2.1, 48, .inl v_stars))] H → va_D A [(a_this, .inr (9, [.int v_thrown, .long v_trace, .ref a_this_text, .int v_typed, .int v_next, .int v_token, .int v_place, .int v_value, .int v_fault, .int v_squares, .ref a_this_stars, .ref a_this_purses, .ref a_this_leases, .int v_starMany, .int v_tenants, .int v_draftSquares, .int v_draftStars, .int v_draftTenants, .int v_draftLeases, .ref a_this_s, .ref a_this_kept, .ref a_this_isKept, .ref a_this_offers, .int v_offerMany, .ref a_this_seen, .int v_seenMany])), (a_this_s, .inl (G.2.1, 100, .inl v_s)), (a_this_stars, .inl (G.2.1, 48, .inl v_stars))] → va_S A s.heap H locs → k58 x2 v_s = some (R0, R1, R2) → W p l e rm_X9_night s m args below meth c H locs 0 0 QQ (F0 m 58 ls [])) → ∀ (x2 : Int32), ∀ (v_s : (Nat → Int32)), ∀ (ls : Array Slot), lv_has ls 5 [(0, .ref a_this), (1, .int x1), (2, .int x2)] → ∀ (H : Heap) (locs : List Loc), va_P G.1 vwCl [(a_this, .inr (9, [.int v_thrown, .long v_trace, .ref a_this_text, .int v_typed, .int v_next, .int v_token, .int v_place, .int v_value, .int v_fault, .int v_squares, .ref a_this_stars, .ref a_this_purses, .ref a_this_leases, .int v_starMany, .int v_tenants, .int v_draftSquares, .int v_draftStars, .int v_draftTenants, .int v_draftLeases, .ref a_this_s, .ref a_this_kept, .ref a_this_isKept, .ref a_this_offers, .int v_offerMany, .ref a_this_seen, .int v_seenMany])), (a_this_s, .inl (G.2.1, 100, .inl v_s)), (a_this_stars, .inl (G.2.1, 48, .inl v_stars))] H → va_D A [(a_this, .inr (9, [.int v_thrown, .long v_trace, .ref a_this_text, .int v_typed, .int v_next, .int v_token, .int v_place, .int v_value, .int v_fault, .int v_squares, .ref a_this_stars, .ref a_this_purses, .ref a_this_leases, .int v_starMany, .int v_tenants, .int v_draftSquares, .int v_draftStars, .int v_draftTenants, .int v_draftLeases, .ref a_this_s, .ref a_this_kept, .ref a_this_isKept, .ref a_this_offers, .int v_offerMany, .ref a_this_seen, .int v_seenMany])), (a_this_s, .inl (G.2.1, 100, .inl v_s)), (a_this_stars, .inl (G.2.1, 48, .inl v_stars))] → va_S A s.heap H locs → f_X9_night_b125 k58 x2 v_s = some (R0, R1, R2) → W p l e rm_X9_night s m args below meth c H locs 0 0 QQ (F0 m 125 ls []) := by
    intro x1 v_thrown k58 hk58 x2 v_s ls hl H locs hP hD hS hf
    unfold f_X9_night_b125 at hf
    refine lv_iinc (v := (x2 + (1 : Int32))) (lv' := [(2, .int (x2 + (1 : Int32))), (0, .ref a_this), (1, .int x1)]) hx hb dX9_night_125 hl (k := 2) rfl rfl (by decide) rfl (fun ls hl => ?_)
    refine lv_goto (tgt := 58) hx hb dX9_night_128 (by decide) ?_
    exact hk58 ((x2 + (1 : Int32))) (v_s) ls (lv_sub hl [1, 2, 0] rfl) _ _ hP hD hS hf
  have j58 : ∀ (x1 : Int32), ∀ (v_thrown : Int32), ∀ (nn : Nat), ∀ (x2 : Int32), ∀ (v_s : (Nat → Int32)), ∀ (ls : Array Slot), lv_has ls 5 [(0, .ref a_this), (1, .int x1), (2, .int x2)] → ∀ (H : Heap) (locs : List Loc), va_P G.1 vwCl [(a_this, .inr (9, [.int v_thrown, .long v_trace, .ref a_this_text, .int v_typed, .int v_next, .int v_token, .int v_place, .int v_value, .int v_fault, .int v_squares, .ref a_this_stars, .ref a_this_purses, .ref a_this_leases, .int v_starMany, .int v_tenants, .int v_draftSquares, .int v_draftStars, .int v_draftTenants, .int v_draftLeases, .ref a_this_s, .ref a_this_kept, .ref a_this_isKept, .ref a_this_offers, .int v_offerMany, .ref a_this_seen, .int v_seenMany])), (a_this_s, .inl (G.2.1, 100, .inl v_s)), (a_this_stars, .inl (G.2.1, 48, .inl v_stars))] H → va_D A [(a_this, .inr (9, [.int v_thrown, .long v_trace, .ref a_this_text, .int v_typed, .int v_next, .int v_token, .int v_place, .int v_value, .int v_fault, .int v_squares, .ref a_this_stars, .ref a_this_purses, .ref a_this_leases, .int v_starMany, .int v_tenants, .int v_draftSquares, .int v_draftStars, .int v_draftTenants, .int v_draftLeases, .ref a_this_s, .ref a_this_kept, .ref a_this_isKept, .ref a_this_offers, .int v_offerMany, .ref a_this_seen, .int v_seenMany])), (a_this_s, .inl (G.2.1, 100, .inl v_s)), (a_this_stars, .inl (G.2.1, 48, .inl v_stars))] → va_S A s.heap H locs → f_X9_night_b58 v_squares v_starMany v_stars x1 v_thrown nn x2 v_s = some (R0, R1, R2) → W p l e rm_X9_night s m args below meth c H locs 0 0 QQ (F0 m 58 ls []) := by
    intro x1 v_thrown
    intro nn
    induction nn with
    | zero =>
      intro x2 v_s ls hl H locs hP hD hS hf
      rw [f_X9_night_b58] at hf
      cases hf
    | succ n58 ih =>
      intro x2 v_s ls hl H locs hP hD hS hf
      rw [f_X9_night_b58] at hf
      refine lv_iload_n hx hb dX9_night_58 rfl (lv_at hl 2 rfl) ?_
      refine lv_aload_n hx hb dX9_night_59 rfl (lv_at hl 0 rfl) ?_
      refine va_get (D := G.1) (ci := 9) (v := .int v_starMany) (C := RX9) (T := TX9) (N := 26) hx hb hts inX9 hown hK hP 0 rfl rfl 13 (by decide) lk118 (fun _ h9 => h9) rfl dX9_night_60 ?_
      refine lv_icmp_ge (tgt := 131) hx hb dX9_night_63 (by decide) (fun hc23 => ?_) (fun hc23 => ?_)
      · have hf := if_t hf hc23
        refine lv_aload_n hx hb dX9_night_131 rfl (lv_at hl 0 rfl) ?_
        refine va_get (D := G.1) (ci := 9) (v := .ref a_this_s) (C := RX9) (T := TX9) (N := 26) hx hb hts inX9 hown hK hP 0 rfl rfl 19 (by decide) lk22 (fun _ h9 => h9) rfl dX9_night_132 ?_
        refine lv_iconst (v := (0 : Int32)) hx hb dX9_night_135 (by decide) ?_
        refine lv_dup2_11 hx hb dX9_night_136 rfl rfl ?_
        obtain ⟨hg24, hf⟩ := gd_some hf
        refine va_iald hx hb hK hP 1 0 rfl rfl (inB_in hg24) dX9_night_137 ?_
        refine lv_iconst (v := (1 : Int32)) hx hb dX9_night_138 (by decide) ?_
        refine lv_iadd hx hb dX9_night_139 ?_
        obtain ⟨hg25, hf⟩ := gd_some hf
        refine z_iast hx hb hK hP hD hS 1 0 rfl rfl (inB_in hg25) dX9_night_140 (fun gg => [(a_this, .inr (9, [.int v_thrown, .long v_trace, .ref a_this_text, .int v_typed, .int v_next, .int v_token, .int v_place, .int v_value, .int v_fault, .int v_squares, .ref a_this_stars, .ref a_this_purses, .ref a_this_leases, .int v_starMany, .int v_tenants, .int v_draftSquares, .int v_draftStars, .int v_draftTenants, .int v_draftLeases, .ref a_this_s, .ref a_this_kept, .ref a_this_isKept, .ref a_this_offers, .int v_offerMany, .ref a_this_seen, .int v_seenMany])), (a_this_s, .inl (G.2.1, 100, .inl gg)), (a_this_stars, .inl (G.2.1, 48, .inl v_stars))]) (fun gg => rfl) (fun y26 H locs ey26 hP hD hS => ?_)
        have hf := nm_to hf ey26
        have hP : va_P G.1 vwCl [(a_this, .inr (9, [.int v_thrown, .long v_trace, .ref a_this_text, .int v_typed, .int v_next, .int v_token, .int v_place, .int v_value, .int v_fault, .int v_squares, .ref a_this_stars, .ref a_this_purses, .ref a_this_leases, .int v_starMany, .int v_tenants, .int v_draftSquares, .int v_draftStars, .int v_draftTenants, .int v_draftLeases, .ref a_this_s, .ref a_this_kept, .ref a_this_isKept, .ref a_this_offers, .int v_offerMany, .ref a_this_seen, .int v_seenMany])), (a_this_s, .inl (G.2.1, 100, .inl y26)), (a_this_stars, .inl (G.2.1, 48, .inl v_stars))] H := hP
        have hD : va_D A [(a_this, .inr (9, [.int v_thrown, .long v_trace, .ref a_this_text, .int v_typed, .int v_next, .int v_token, .int v_place, .int v_value, .int v_fault, .int v_squares, .ref a_this_stars, .ref a_this_purses, .ref a_this_leases, .int v_starMany, .int v_tenants, .int v_draftSquares, .int v_draftStars, .int v_draftTenants, .int v_draftLeases, .ref a_this_s, .ref a_this_kept, .ref a_this_isKept, .ref a_this_offers, .int v_offerMany, .ref a_this_seen, .int v_seenMany])), (a_this_s, .inl (G.2.1, 100, .inl y26)), (a_this_stars, .inl (G.2.1, 48, .inl v_stars))] := hD
        refine lv_iload_n hx hb dX9_night_141 rfl (lv_at hl 1 rfl) ?_
        obtain ⟨hr0, hr1, hr2⟩ := so3 hf
        subst hr0
        subst hr1
        subst hr2
        rw [← hQ]
        exact W.iret (v := x1) hx hb hr (fun t ht hW => ⟨⟨rfl, by rw [ht]; exact hP⟩, hS.F ht⟩) hS.2.2 dX9_night_142
      · have hf := if_f hf hc23
        refine lv_aload_n hx hb dX9_night_66 rfl (lv_at hl 0 rfl) ?_
        refine lv_iload_n hx hb dX9_night_67 rfl (lv_at hl 2 rfl) ?_
        refine lv_aload_n hx hb dX9_night_68 rfl (lv_at hl 0 rfl) ?_
        refine va_get (D := G.1) (ci := 9) (v := .ref a_this_s) (C := RX9) (T := TX9) (N := 26) hx hb hts inX9 hown hK hP 0 rfl rfl 19 (by decide) lk22 (fun _ h9 => h9) rfl dX9_night_69 ?_
        refine lv_iconst (v := (0 : Int32)) hx hb dX9_night_72 (by decide) ?_
        obtain ⟨hg27, hf⟩ := gd_some hf
        refine va_iald hx hb hK hP 1 0 rfl rfl (inB_in hg27) dX9_night_73 ?_
        obtain ⟨r28, hu, hf⟩ := bd1_some hf
        refine zRi (va_runV (As := [.int x2, .int (v_s ((0 : Int32)).toNatClampNeg)]) (rest := []) hC (c_X9_squareOf l G a_this a_this_stars a_this_text a_this_purses a_this_leases a_this_s a_this_kept a_this_isKept a_this_offers a_this_seen (v_thrown) (v_trace) (v_typed) (v_next) (v_token) (v_place) (v_value) (v_fault) (v_squares) (v_starMany) (v_tenants) (v_draftSquares) (v_draftStars) (v_draftTenants) (v_draftLeases) (v_offerMany) (v_seenMany) (v_stars) (x2) ((v_s ((0 : Int32)).toNatClampNeg)) r28 hu) (cwV 2 hts gX9_night_X9_squareOf rfl rfl rfl hd_X9_squareOf ⟨(Nat.le_of_ble_eq_true rfl), (Nat.le_of_ble_eq_true rfl)⟩) (zPV hE hP [0, 2] rfl 0 rfl rfl) rfl rfl hl.1 rfl (lv_room (Nat.le_of_ble_eq_true rfl)) dX9_night_74 ⟨Nat.zero_le _, Nat.zero_le _⟩) ?_
        refine lv_istore_n (lv' := [(3, .int r28), (0, .ref a_this), (1, .int x1), (2, .int x2)]) hx hb dX9_night_77 rfl hl (by decide) rfl (fun ls hl => ?_)
        refine lv_aload_n hx hb dX9_night_78 rfl (lv_at hl 1 rfl) ?_
        refine lv_iload_n hx hb dX9_night_79 rfl (lv_at hl 0 rfl) ?_
        refine lv_aload_n hx hb dX9_night_80 rfl (lv_at hl 1 rfl) ?_
        refine va_get (D := G.1) (ci := 9) (v := .ref a_this_s) (C := RX9) (T := TX9) (N := 26) hx hb hts inX9 hown hK hP 0 rfl rfl 19 (by decide) lk22 (fun _ h9 => h9) rfl dX9_night_81 ?_
        refine lv_iconst (v := (0 : Int32)) hx hb dX9_night_84 (by decide) ?_
        obtain ⟨hg29, hf⟩ := gd_some hf
        refine va_iald hx hb hK hP 1 0 rfl rfl (inB_in hg29) dX9_night_85 ?_
        obtain ⟨r30, hu, hf⟩ := bd1_some hf
        refine zRi (va_runV (As := [.int r28, .int (v_s ((0 : Int32)).toNatClampNeg)]) (rest := []) hC (c_X9_whoseIs l G a_this a_this_s a_this_text a_this_stars a_this_purses a_this_leases a_this_kept a_this_isKept a_this_offers a_this_seen (v_thrown) (v_trace) (v_typed) (v_next) (v_token) (v_place) (v_value) (v_fault) (v_squares) (v_starMany) (v_tenants) (v_draftSquares) (v_draftStars) (v_draftTenants) (v_draftLeases) (v_offerMany) (v_seenMany) (v_s) (r28) ((v_s ((0 : Int32)).toNatClampNeg)) r30 hu) (cwV 2 hts gX9_night_X9_whoseIs rfl rfl rfl hd_X9_whoseIs ⟨(Nat.le_of_ble_eq_true rfl), (Nat.le_of_ble_eq_true rfl)⟩) (zPV hE hP [0, 1] rfl 0 rfl rfl) rfl rfl hl.1 rfl (lv_room (Nat.le_of_ble_eq_true rfl)) dX9_night_86 ⟨Nat.zero_le _, Nat.zero_le _⟩) ?_
        refine lv_istore (lv' := [(4, .int r30), (3, .int r28), (0, .ref a_this), (1, .int x1), (2, .int x2)]) hx hb dX9_night_89 hl (by decide) rfl (fun ls hl => ?_)
        refine lv_iload_n hx hb dX9_night_91 rfl (lv_at hl 1 rfl) ?_
        refine lv_iload_n hx hb dX9_night_92 rfl (lv_at hl 3 rfl) ?_
        refine lv_icmp_eq (tgt := 125) hx hb dX9_night_93 (by decide) (fun hc31 => ?_) (fun hc31 => ?_)
        · have hf := if_t hf hc31
          exact j125 (x1) (v_thrown) (f_X9_night_b58 v_squares v_starMany v_stars x1 v_thrown n58) ih (x2) (v_s) ls (lv_sub hl [2, 3, 4] rfl) _ _ hP hD hS hf
        · have hf := if_f hf hc31
          refine lv_iload hx hb dX9_night_96 (lv_at hl 0 rfl) ?_
          refine lv_bipush (v := (-9 : Int32)) hx hb dX9_night_98 (by decide) ?_
          refine lv_icmp_eq (tgt := 125) hx hb dX9_night_100 (by decide) (fun hc32 => ?_) (fun hc32 => ?_)
          · have hf := if_t hf hc32
            exact j125 (x1) (v_thrown) (f_X9_night_b58 v_squares v_starMany v_stars x1 v_thrown n58) ih (x2) (v_s) ls (lv_sub hl [2, 3, 4] rfl) _ _ hP hD hS hf
          · have hf := if_f hf hc32
            refine lv_aload_n hx hb dX9_night_103 rfl (lv_at hl 2 rfl) ?_
            refine va_get (D := G.1) (ci := 9) (v := .ref a_this_s) (C := RX9) (T := TX9) (N := 26) hx hb hts inX9 hown hK hP 0 rfl rfl 19 (by decide) lk22 (fun _ h9 => h9) rfl dX9_night_104 ?_
            refine lv_iconst (v := (2 : Int32)) hx hb dX9_night_107 (by decide) ?_
            refine lv_iload hx hb dX9_night_108 (lv_at hl 0 rfl) ?_
            refine lv_iadd hx hb dX9_night_110 ?_
            refine lv_dup2_11 hx hb dX9_night_111 rfl rfl ?_
            obtain ⟨hg33, hf⟩ := gd_some hf
            refine va_iald hx hb hK hP 1 0 rfl rfl (inB_in hg33) dX9_night_112 ?_
            refine lv_aload_n hx hb dX9_night_113 rfl (lv_at hl 2 rfl) ?_
            refine va_get (D := G.1) (ci := 9) (v := .ref a_this_stars) (C := RX9) (T := TX9) (N := 26) hx hb hts inX9 hown hK hP 0 rfl rfl 10 (by decide) lk13 (fun _ h9 => h9) rfl dX9_night_114 ?_
            refine lv_iconst (v := (3 : Int32)) hx hb dX9_night_117 (by decide) ?_
            refine lv_iload_n hx hb dX9_night_118 rfl (lv_at hl 4 rfl) ?_
            refine lv_imul hx hb dX9_night_119 ?_
            refine lv_iconst (v := (2 : Int32)) hx hb dX9_night_120 (by decide) ?_
            refine lv_iadd hx hb dX9_night_121 ?_
            obtain ⟨hg34, hf⟩ := gd_some hf
            refine va_iald hx hb hK hP 2 0 rfl rfl (inB_in hg34) dX9_night_122 ?_
            refine lv_iadd hx hb dX9_night_123 ?_
            obtain ⟨hg35, hf⟩ := gd_some hf
            refine z_iast hx hb hK hP hD hS 1 0 rfl rfl (inB_in hg35) dX9_night_124 (fun gg => [(a_this, .inr (9, [.int v_thrown, .long v_trace, .ref a_this_text, .int v_typed, .int v_next, .int v_token, .int v_place, .int v_value, .int v_fault, .int v_squares, .ref a_this_stars, .ref a_this_purses, .ref a_this_leases, .int v_starMany, .int v_tenants, .int v_draftSquares, .int v_draftStars, .int v_draftTenants, .int v_draftLeases, .ref a_this_s, .ref a_this_kept, .ref a_this_isKept, .ref a_this_offers, .int v_offerMany, .ref a_this_seen, .int v_seenMany])), (a_this_s, .inl (G.2.1, 100, .inl gg)), (a_this_stars, .inl (G.2.1, 48, .inl v_stars))]) (fun gg => rfl) (fun y36 H locs ey36 hP hD hS => ?_)
            have hf := nm_to hf ey36
            have hP : va_P G.1 vwCl [(a_this, .inr (9, [.int v_thrown, .long v_trace, .ref a_this_text, .int v_typed, .int v_next, .int v_token, .int v_place, .int v_value, .int v_fault, .int v_squares, .ref a_this_stars, .ref a_this_purses, .ref a_this_leases, .int v_starMany, .int v_tenants, .int v_draftSquares, .int v_draftStars, .int v_draftTenants, .int v_draftLeases, .ref a_this_s, .ref a_this_kept, .ref a_this_isKept, .ref a_this_offers, .int v_offerMany, .ref a_this_seen, .int v_seenMany])), (a_this_s, .inl (G.2.1, 100, .inl y36)), (a_this_stars, .inl (G.2.1, 48, .inl v_stars))] H := hP
            have hD : va_D A [(a_this, .inr (9, [.int v_thrown, .long v_trace, .ref a_this_text, .int v_typed, .int v_next, .int v_token, .int v_place, .int v_value, .int v_fault, .int v_squares, .ref a_this_stars, .ref a_this_purses, .ref a_this_leases, .int v_starMany, .int v_tenants, .int v_draftSquares, .int v_draftStars, .int v_draftTenants, .int v_draftLeases, .ref a_this_s, .ref a_this_kept, .ref a_this_isKept, .ref a_this_offers, .int v_offerMany, .ref a_this_seen, .int v_seenMany])), (a_this_s, .inl (G.2.1, 100, .inl y36)), (a_this_stars, .inl (G.2.1, 48, .inl v_stars))] := hD
            exact j125 (x1) (v_thrown) (f_X9_night_b58 v_squares v_starMany v_stars x1 v_thrown n58) ih (x2) (y36) ls (lv_sub hl [2, 3, 4] rfl) _ _ hP hD hS hf
  have hSH := hS
  unfold f_X9_night at hf
  refine lv_aload_n hx hb dX9_night_0 rfl (lv_at hl 0 rfl) ?_
  refine lv_iconst (v := (0 : Int32)) hx hb dX9_night_1 (by decide) ?_
  refine va_put (D := G.1) (ci := 9) (v := .int (0 : Int32)) (ty := .int) (C := RX9) (T := TX9) (N := 26) hx hb hts inX9 tyX9 tyX9_ok nmX9 hown hK hP hD hS 0 rfl rfl 0 (by decide) lk42 (fun _ h9 => h9) rfl (by decide +kernel) rfl rfl (Nat.le_of_ble_eq_true rfl) dX9_night_2 (fun H locs hP hD hS => ?_)
  have hP : va_P G.1 vwCl [(a_this, .inr (9, [.int (0 : Int32), .long v_trace, .ref a_this_text, .int v_typed, .int v_next, .int v_token, .int v_place, .int v_value, .int v_fault, .int v_squares, .ref a_this_stars, .ref a_this_purses, .ref a_this_leases, .int v_starMany, .int v_tenants, .int v_draftSquares, .int v_draftStars, .int v_draftTenants, .int v_draftLeases, .ref a_this_s, .ref a_this_kept, .ref a_this_isKept, .ref a_this_offers, .int v_offerMany, .ref a_this_seen, .int v_seenMany])), (a_this_s, .inl (G.2.1, 100, .inl v_s)), (a_this_stars, .inl (G.2.1, 48, .inl v_stars))] H := hP
  have hD : va_D A [(a_this, .inr (9, [.int (0 : Int32), .long v_trace, .ref a_this_text, .int v_typed, .int v_next, .int v_token, .int v_place, .int v_value, .int v_fault, .int v_squares, .ref a_this_stars, .ref a_this_purses, .ref a_this_leases, .int v_starMany, .int v_tenants, .int v_draftSquares, .int v_draftStars, .int v_draftTenants, .int v_draftLeases, .ref a_this_s, .ref a_this_kept, .ref a_this_isKept, .ref a_this_offers, .int v_offerMany, .ref a_this_seen, .int v_seenMany])), (a_this_s, .inl (G.2.1, 100, .inl v_s)), (a_this_stars, .inl (G.2.1, 48, .inl v_stars))] := hD
  refine lv_aload_n hx hb dX9_night_5 rfl (lv_at hl 0 rfl) ?_
  refine va_get (D := G.1) (ci := 9) (v := .ref a_this_s) (C := RX9) (T := TX9) (N := 26) hx hb hts inX9 hown hK hP 0 rfl rfl 19 (by decide) lk22 (fun _ h9 => h9) rfl dX9_night_6 ?_
  refine lv_iconst (v := (0 : Int32)) hx hb dX9_night_9 (by decide) ?_
  obtain ⟨hg37, hf⟩ := gd_some hf
  refine va_iald hx hb hK hP 1 0 rfl rfl (inB_in hg37) dX9_night_10 ?_
  refine lv_bipush (v := (99 : Int32)) hx hb dX9_night_11 (by decide) ?_
  refine lv_icmp_ne (tgt := 19) hx hb dX9_night_13 (by decide) (fun hc38 => ?_) (fun hc38 => ?_)
  · have hf := if_f hf hc38
    refine lv_aload_n hx hb dX9_night_19 rfl (lv_at hl 0 rfl) ?_
    refine va_get (D := G.1) (ci := 9) (v := .ref a_this_s) (C := RX9) (T := TX9) (N := 26) hx hb hts inX9 hown hK hP 0 rfl rfl 19 (by decide) lk22 (fun _ h9 => h9) rfl dX9_night_20 ?_
    refine lv_iconst (v := (1 : Int32)) hx hb dX9_night_23 (by decide) ?_
    refine lv_aload_n hx hb dX9_night_24 rfl (lv_at hl 0 rfl) ?_
    refine va_get (D := G.1) (ci := 9) (v := .ref a_this_s) (C := RX9) (T := TX9) (N := 26) hx hb hts inX9 hown hK hP 0 rfl rfl 19 (by decide) lk22 (fun _ h9 => h9) rfl dX9_night_25 ?_
    refine lv_iconst (v := (1 : Int32)) hx hb dX9_night_28 (by decide) ?_
    obtain ⟨hg39, hf⟩ := gd_some hf
    refine va_iald hx hb hK hP 1 0 rfl rfl (inB_in hg39) dX9_night_29 ?_
    refine lv_ldc (own := RX9) (index := 156) (v := (1103515245 : Int32)) hx hb hown (hts (.constant RX9 156 (1103515245)) (by decide +kernel)) dX9_night_30 ?_
    refine lv_imul hx hb dX9_night_32 ?_
    refine lv_sipush (v := (12345 : Int32)) hx hb dX9_night_33 (by decide) ?_
    refine lv_iadd hx hb dX9_night_36 ?_
    obtain ⟨hg40, hf⟩ := gd_some hf
    refine z_iast hx hb hK hP hD hS 1 0 rfl rfl (inB_in hg40) dX9_night_37 (fun gg => [(a_this, .inr (9, [.int (0 : Int32), .long v_trace, .ref a_this_text, .int v_typed, .int v_next, .int v_token, .int v_place, .int v_value, .int v_fault, .int v_squares, .ref a_this_stars, .ref a_this_purses, .ref a_this_leases, .int v_starMany, .int v_tenants, .int v_draftSquares, .int v_draftStars, .int v_draftTenants, .int v_draftLeases, .ref a_this_s, .ref a_this_kept, .ref a_this_isKept, .ref a_this_offers, .int v_offerMany, .ref a_this_seen, .int v_seenMany])), (a_this_s, .inl (G.2.1, 100, .inl gg)), (a_this_stars, .inl (G.2.1, 48, .inl v_stars))]) (fun gg => rfl) (fun y41 H locs ey41 hP hD hS => ?_)
    have hf := nm_to hf ey41
    have hP : va_P G.1 vwCl [(a_this, .inr (9, [.int (0 : Int32), .long v_trace, .ref a_this_text, .int v_typed, .int v_next, .int v_token, .int v_place, .int v_value, .int v_fault, .int v_squares, .ref a_this_stars, .ref a_this_purses, .ref a_this_leases, .int v_starMany, .int v_tenants, .int v_draftSquares, .int v_draftStars, .int v_draftTenants, .int v_draftLeases, .ref a_this_s, .ref a_this_kept, .ref a_this_isKept, .ref a_this_offers, .int v_offerMany, .ref a_this_seen, .int v_seenMany])), (a_this_s, .inl (G.2.1, 100, .inl y41)), (a_this_stars, .inl (G.2.1, 48, .inl v_stars))] H := hP
    have hD : va_D A [(a_this, .inr (9, [.int (0 : Int32), .long v_trace, .ref a_this_text, .int v_typed, .int v_next, .int v_token, .int v_place, .int v_value, .int v_fault, .int v_squares, .ref a_this_stars, .ref a_this_purses, .ref a_this_leases, .int v_starMany, .int v_tenants, .int v_draftSquares, .int v_draftStars, .int v_draftTenants, .int v_draftLeases, .ref a_this_s, .ref a_this_kept, .ref a_this_isKept, .ref a_this_offers, .int v_offerMany, .ref a_this_seen, .int v_seenMany])), (a_this_s, .inl (G.2.1, 100, .inl y41)), (a_this_stars, .inl (G.2.1, 48, .inl v_stars))] := hD
    refine lv_aload_n hx hb dX9_night_38 rfl (lv_at hl 0 rfl) ?_
    refine va_get (D := G.1) (ci := 9) (v := .ref a_this_s) (C := RX9) (T := TX9) (N := 26) hx hb hts inX9 hown hK hP 0 rfl rfl 19 (by decide) lk22 (fun _ h9 => h9) rfl dX9_night_39 ?_
    refine lv_iconst (v := (1 : Int32)) hx hb dX9_night_42 (by decide) ?_
    obtain ⟨hg42, hf⟩ := gd_some hf
    refine va_iald hx hb hK hP 1 0 rfl rfl (inB_in hg42) dX9_night_43 ?_
    refine lv_bipush (v := (16 : Int32)) hx hb dX9_night_44 (by decide) ?_
    refine lv_ishr hx hb dX9_night_46 ?_
    refine lv_ldc (own := RX9) (index := 157) (v := (65535 : Int32)) hx hb hown (hts (.constant RX9 157 (65535)) (by decide +kernel)) dX9_night_47 ?_
    refine lv_iand hx hb dX9_night_49 ?_
    refine lv_aload_n hx hb dX9_night_50 rfl (lv_at hl 0 rfl) ?_
    refine va_get (D := G.1) (ci := 9) (v := .int v_squares) (C := RX9) (T := TX9) (N := 26) hx hb hts inX9 hown hK hP 0 rfl rfl 9 (by decide) lk38 (fun _ h9 => h9) rfl dX9_night_51 ?_
    obtain ⟨hg43, hf⟩ := gd_some hf
    refine lv_irem hx hb dX9_night_54 (nzB_ne hg43) ?_
    refine lv_topi (fun y44 ey44 => ?_)
    have hf := nm_to hf ey44
    refine lv_istore_n (lv' := [(1, .int y44), (0, .ref a_this)]) hx hb dX9_night_55 rfl hl (by decide) rfl (fun ls hl => ?_)
    refine lv_iconst (v := (0 : Int32)) hx hb dX9_night_56 (by decide) ?_
    refine lv_istore_n (lv' := [(2, .int (0 : Int32)), (1, .int y44), (0, .ref a_this)]) hx hb dX9_night_57 rfl hl (by decide) rfl (fun ls hl => ?_)
    exact j58 (y44) ((0 : Int32)) zF ((0 : Int32)) (y41) ls (lv_sub hl [2, 1, 0] rfl) _ _ hP hD hS hf
  · have hf := if_t hf hc38
    refine lv_bipush (v := (-2 : Int32)) hx hb dX9_night_16 (by decide) ?_
    obtain ⟨hr0, hr1, hr2⟩ := so3 hf
    subst hr0
    subst hr1
    subst hr2
    rw [← hQ]
    exact W.iret (v := (-2 : Int32)) hx hb hr (fun t ht hW => ⟨⟨rfl, by rw [ht]; exact hP⟩, hS.F ht⟩) hS.2.2 dX9_night_18
def f_X9_isTenant  (v_tenants : Int32) (g1 : Int32) : Option (Int32) := bd1 (f_X9_in (g1) ((0 : Int32)) ((v_tenants - (1 : Int32)))) fun r3 => gd (bzB r3) (some (r3))
abbrev rm_X9_isTenant : Room := { frames := 1, cells := 0, slots := 0, locals := 22 }
set_option maxHeartbeats 4000000 in
set_option maxRecDepth 100000 in
theorem c_X9_isTenant (l : Launch) (G : zG) (a_this : Nat) (a_this_text : Nat) (a_this_stars : Nat) (a_this_purses : Nat) (a_this_leases : Nat) (a_this_s : Nat) (a_this_kept : Nat) (a_this_isKept : Nat) (a_this_offers : Nat) (a_this_seen : Nat) (v_thrown : Int32) (v_trace : Int64) (v_typed : Int32) (v_next : Int32) (v_token : Int32) (v_place : Int32) (v_value : Int32) (v_fault : Int32) (v_squares : Int32) (v_starMany : Int32) (v_tenants : Int32) (v_draftSquares : Int32) (v_draftStars : Int32) (v_draftTenants : Int32) (v_draftLeases : Int32) (v_offerMany : Int32) (v_seenMany : Int32) (g1 : Int32) (R0 : Int32) (hf : f_X9_isTenant v_tenants g1 = some R0) : Met l yX9_isTenant wsX9_isTenant rm_X9_isTenant (va_Pc [.ref a_this, .int g1] (zR G [(a_this, .inr (9, [.int v_thrown, .long v_trace, .ref a_this_text, .int v_typed, .int v_next, .int v_token, .int v_place, .int v_value, .int v_fault, .int v_squares, .ref a_this_stars, .ref a_this_purses, .ref a_this_leases, .int v_starMany, .int v_tenants, .int v_draftSquares, .int v_draftStars, .int v_draftTenants, .int v_draftLeases, .ref a_this_s, .ref a_this_kept, .ref a_this_isKept, .ref a_this_offers, .int v_offerMany, .ref a_this_seen, .int v_seenMany]))])) (zSv (some (.int R0))) 0 0 (fun _ => False) := by
  refine Met.ofW (cc := cX9_isTenant) (maxL := 2) (ret := (some .boolean)) (by decide) rfl ?_
  intro p e s m args below meth c s₁ B hml hv
  obtain ⟨hargs, hP, hE⟩ := hv
  have hx := B.exec
  have hb := B.bytes
  have hr := B.returns
  have hts := atoms_spec (ws := wsX9_isTenant) B.pre
  have hown : s.vm.findClass RX9 = some m.cls := findClass_of_methodNamed B.named
  have hlocks := B.notSynchronized
  have hK := hE.1
  have hC : CallFix p m c cX9_isTenant 2 s args wsX9_isTenant RX9 := ⟨hx, hb, hml, hown, hts⟩
  have inX9 : ∀ w ∈ wsX90, w ∈ wsX9_isTenant := by decide +kernel
  have lk121 := hts (.fieldLink RX9 121 "SkyLeasesModel" "tenants" "I") (by decide +kernel)
  have hl := lv_entry ([.ref a_this, .int g1]) (n := 2) (Nat.le_of_ble_eq_true rfl)
  have hent : entryFrame m args 2 = F0 m 0 ((lg_sl ([.ref a_this, .int g1]) ++ List.replicate (2 - (lg_sl ([.ref a_this, .int g1])).length) Slot.unset).toArray) [] := by rw [hargs]; exact lg_entry_eq m [.ref a_this, .int g1] 2
  refine W.eq hent ?_
  clear hent
  generalize (lg_sl ([.ref a_this, .int g1]) ++ List.replicate (2 - (lg_sl ([.ref a_this, .int g1])).length) Slot.unset).toArray = ls at hl ⊢
  have hl : lv_has ls 2 [(0, .ref a_this), (1, .int g1)] := hl
  generalize hQ : MQ below _ args s 0 0 _ = QQ
  change W p l e rm_X9_isTenant s m args below meth c s.heap [] 0 0 QQ _
  unfold f_X9_isTenant at hf
  refine lv_iload_n hx hb dX9_isTenant_0 rfl (lv_at hl 1 rfl) ?_
  refine lv_iconst (v := (0 : Int32)) hx hb dX9_isTenant_1 (by decide) ?_
  refine lv_aload_n hx hb dX9_isTenant_2 rfl (lv_at hl 0 rfl) ?_
  refine va_get (D := G.1) (ci := 9) (v := .int v_tenants) (C := RX9) (T := TX9) (N := 26) hx hb hts inX9 hown hK hP 0 rfl rfl 14 (by decide) lk121 (fun _ h9 => h9) rfl dX9_isTenant_3 ?_
  refine lv_iconst (v := (1 : Int32)) hx hb dX9_isTenant_6 (by decide) ?_
  refine lv_isub hx hb dX9_isTenant_7 ?_
  obtain ⟨r3, hu, hf⟩ := bd1_some hf
  refine zRi (va_runS (As := [.int g1, .int (0 : Int32), .int (v_tenants - (1 : Int32))]) (rest := []) hC (c_X9_in l G (g1) ((0 : Int32)) ((v_tenants - (1 : Int32))) r3 hu) (va_cwS 3 hts gX9_isTenant_X9_in rfl rfl rfl hd_X9_in.2 ⟨(Nat.le_of_ble_eq_true rfl), (Nat.le_of_ble_eq_true rfl)⟩) (zPS hE hP [] rfl) rfl rfl hl.1 rfl (lv_room (Nat.le_of_ble_eq_true rfl)) dX9_isTenant_8 ⟨Nat.zero_le _, Nat.zero_le _⟩) ?_
  obtain ⟨hg4, hf⟩ := gd_some hf
  have hr0 := so1 hf
  subst hr0
  rw [← hQ]
  exact W.zret (v := r3) hx hb hr (bzB_nar hg4) (fun t ht hW => ⟨rfl, ht⟩) (fun _ h => by cases h) dX9_isTenant_11
theorem hd_X9_isTenant : yX9_isTenant.cls = RX9 ∧ yX9_isTenant.cls ≠ "java/lang/invoke/MethodHandle" ∧ yX9_isTenant.cls ≠ "java/lang/invoke/VarHandle" ∧ (parseMethodDescriptor yX9_isTenant.desc).map (fun d => d.parameters.length) = some 1 := by decide +kernel
def f_X9_purse  (v_thrown : Int32) (v_tenants : Int32) (v_s : (Nat → Int32)) (g1 : Int32) : Option (Int32 × Int32) := bd1 (f_X9_isTenant (v_tenants) (g1)) fun r4 => if r4 = (0 : Int32) then (some ((-1 : Int32), (0 : Int32))) else (gd (inB ((2 : Int32) + g1) 100) (some ((v_s (((2 : Int32) + g1)).toNatClampNeg), (0 : Int32))))
abbrev rm_X9_purse : Room := { frames := 2, cells := 0, slots := 0, locals := 43 }
set_option maxHeartbeats 4000000 in
set_option maxRecDepth 100000 in
theorem c_X9_purse (l : Launch) (G : zG) (sz : Nat) (a_this : Nat) (a_this_s : Nat) (a_this_text : Nat) (a_this_stars : Nat) (a_this_purses : Nat) (a_this_leases : Nat) (a_this_kept : Nat) (a_this_isKept : Nat) (a_this_offers : Nat) (a_this_seen : Nat) (v_thrown : Int32) (v_trace : Int64) (v_typed : Int32) (v_next : Int32) (v_token : Int32) (v_place : Int32) (v_value : Int32) (v_fault : Int32) (v_squares : Int32) (v_starMany : Int32) (v_tenants : Int32) (v_draftSquares : Int32) (v_draftStars : Int32) (v_draftTenants : Int32) (v_draftLeases : Int32) (v_offerMany : Int32) (v_seenMany : Int32) (v_s : (Nat → Int32)) (g1 : Int32) (R0 : Int32) (R1 : Int32) (hf : f_X9_purse v_thrown v_tenants v_s g1 = some (R0, R1)) : Met l yX9_purse wsX9_purse rm_X9_purse (va_Pc [.ref a_this, .int g1] (zB G [(a_this, .inr (9, [.int v_thrown, .long v_trace, .ref a_this_text, .int v_typed, .int v_next, .int v_token, .int v_place, .int v_value, .int v_fault, .int v_squares, .ref a_this_stars, .ref a_this_purses, .ref a_this_leases, .int v_starMany, .int v_tenants, .int v_draftSquares, .int v_draftStars, .int v_draftTenants, .int v_draftLeases, .ref a_this_s, .ref a_this_kept, .ref a_this_isKept, .ref a_this_offers, .int v_offerMany, .ref a_this_seen, .int v_seenMany])), (a_this_s, .inl (G.2.1, 100, .inl v_s))] sz)) (zQ G (some (.int R0)) [(a_this, .inr (9, [.int R1, .long v_trace, .ref a_this_text, .int v_typed, .int v_next, .int v_token, .int v_place, .int v_value, .int v_fault, .int v_squares, .ref a_this_stars, .ref a_this_purses, .ref a_this_leases, .int v_starMany, .int v_tenants, .int v_draftSquares, .int v_draftStars, .int v_draftTenants, .int v_draftLeases, .ref a_this_s, .ref a_this_kept, .ref a_this_isKept, .ref a_this_offers, .int v_offerMany, .ref a_this_seen, .int v_seenMany])), (a_this_s, .inl (G.2.1, 100, .inl v_s))] (va_A [(a_this, .inr (9, [.int v_thrown, .long v_trace, .ref a_this_text, .int v_typed, .int v_next, .int v_token, .int v_place, .int v_value, .int v_fault, .int v_squares, .ref a_this_stars, .ref a_this_purses, .ref a_this_leases, .int v_starMany, .int v_tenants, .int v_draftSquares, .int v_draftStars, .int v_draftTenants, .int v_draftLeases, .ref a_this_s, .ref a_this_kept, .ref a_this_isKept, .ref a_this_offers, .int v_offerMany, .ref a_this_seen, .int v_seenMany])), (a_this_s, .inl (G.2.1, 100, .inl v_s))] sz)) 0 0 (va_A [(a_this, .inr (9, [.int v_thrown, .long v_trace, .ref a_this_text, .int v_typed, .int v_next, .int v_token, .int v_place, .int v_value, .int v_fault, .int v_squares, .ref a_this_stars, .ref a_this_purses, .ref a_this_leases, .int v_starMany, .int v_tenants, .int v_draftSquares, .int v_draftStars, .int v_draftTenants, .int v_draftLeases, .ref a_this_s, .ref a_this_kept, .ref a_this_isKept, .ref a_this_offers, .int v_offerMany, .ref a_this_seen, .int v_seenMany])), (a_this_s, .inl (G.2.1, 100, .inl v_s))] sz) := by
  refine Met.ofW (cc := cX9_purse) (maxL := 2) (ret := (some .int)) (by decide) rfl ?_
  intro p e s m args below meth c s₁ B hml hv
  obtain ⟨hargs, hsz, hP, hD0, hE⟩ := hv
  have hx := B.exec
  have hb := B.bytes
  have hr := B.returns
  have hts := atoms_spec (ws := wsX9_purse) B.pre
  have hown : s.vm.findClass RX9 = some m.cls := findClass_of_methodNamed B.named
  have hlocks := B.notSynchronized
  have hK := hE.1
  have hC : CallFix p m c cX9_purse 2 s args wsX9_purse RX9 := ⟨hx, hb, hml, hown, hts⟩
  have inX9 : ∀ w ∈ wsX90, w ∈ wsX9_purse := by decide +kernel
  have lk22 := hts (.fieldLink RX9 22 "SkyLeasesModel" "s" "[I") (by decide +kernel)
  have lk42 := hts (.fieldLink RX9 42 "SkyLeasesModel" "thrown" "I") (by decide +kernel)
  subst hsz
  have hD := hD0.self (sz := s.heap.size)
  generalize hAe : va_A [(a_this, .inr (9, [.int v_thrown, .long v_trace, .ref a_this_text, .int v_typed, .int v_next, .int v_token, .int v_place, .int v_value, .int v_fault, .int v_squares, .ref a_this_stars, .ref a_this_purses, .ref a_this_leases, .int v_starMany, .int v_tenants, .int v_draftSquares, .int v_draftStars, .int v_draftTenants, .int v_draftLeases, .ref a_this_s, .ref a_this_kept, .ref a_this_isKept, .ref a_this_offers, .int v_offerMany, .ref a_this_seen, .int v_seenMany])), (a_this_s, .inl (G.2.1, 100, .inl v_s))] s.heap.size = A at hD ⊢
  have hA : ∀ q : Nat, s.heap.size ≤ q → A q := fun q h => by rw [← hAe]; exact Or.inr h
  have hS : va_S A s.heap s.heap [] := va_S.rf
  have hP : va_P G.1 vwCl [(a_this, .inr (9, [.int v_thrown, .long v_trace, .ref a_this_text, .int v_typed, .int v_next, .int v_token, .int v_place, .int v_value, .int v_fault, .int v_squares, .ref a_this_stars, .ref a_this_purses, .ref a_this_leases, .int v_starMany, .int v_tenants, .int v_draftSquares, .int v_draftStars, .int v_draftTenants, .int v_draftLeases, .ref a_this_s, .ref a_this_kept, .ref a_this_isKept, .ref a_this_offers, .int v_offerMany, .ref a_this_seen, .int v_seenMany])), (a_this_s, .inl (G.2.1, 100, .inl v_s))] s.heap := hP
  have hl := lv_entry ([.ref a_this, .int g1]) (n := 2) (Nat.le_of_ble_eq_true rfl)
  have hent : entryFrame m args 2 = F0 m 0 ((lg_sl ([.ref a_this, .int g1]) ++ List.replicate (2 - (lg_sl ([.ref a_this, .int g1])).length) Slot.unset).toArray) [] := by rw [hargs]; exact lg_entry_eq m [.ref a_this, .int g1] 2
  refine W.eq hent ?_
  clear hent
  generalize (lg_sl ([.ref a_this, .int g1]) ++ List.replicate (2 - (lg_sl ([.ref a_this, .int g1])).length) Slot.unset).toArray = ls at hl ⊢
  have hl : lv_has ls 2 [(0, .ref a_this), (1, .int g1)] := hl
  generalize hQ : MQ below _ args s 0 0 _ = QQ
  change W p l e rm_X9_purse s m args below meth c s.heap [] 0 0 QQ _
  have hSH := hS
  unfold f_X9_purse at hf
  refine lv_aload_n hx hb dX9_purse_0 rfl (lv_at hl 0 rfl) ?_
  refine lv_iconst (v := (0 : Int32)) hx hb dX9_purse_1 (by decide) ?_
  refine va_put (D := G.1) (ci := 9) (v := .int (0 : Int32)) (ty := .int) (C := RX9) (T := TX9) (N := 26) hx hb hts inX9 tyX9 tyX9_ok nmX9 hown hK hP hD hS 0 rfl rfl 0 (by decide) lk42 (fun _ h9 => h9) rfl (by decide +kernel) rfl rfl (Nat.le_of_ble_eq_true rfl) dX9_purse_2 (fun H locs hP hD hS => ?_)
  have hP : va_P G.1 vwCl [(a_this, .inr (9, [.int (0 : Int32), .long v_trace, .ref a_this_text, .int v_typed, .int v_next, .int v_token, .int v_place, .int v_value, .int v_fault, .int v_squares, .ref a_this_stars, .ref a_this_purses, .ref a_this_leases, .int v_starMany, .int v_tenants, .int v_draftSquares, .int v_draftStars, .int v_draftTenants, .int v_draftLeases, .ref a_this_s, .ref a_this_kept, .ref a_this_isKept, .ref a_this_offers, .int v_offerMany, .ref a_this_seen, .int v_seenMany])), (a_this_s, .inl (G.2.1, 100, .inl v_s))] H := hP
  have hD : va_D A [(a_this, .inr (9, [.int (0 : Int32), .long v_trace, .ref a_this_text, .int v_typed, .int v_next, .int v_token, .int v_place, .int v_value, .int v_fault, .int v_squares, .ref a_this_stars, .ref a_this_purses, .ref a_this_leases, .int v_starMany, .int v_tenants, .int v_draftSquares, .int v_draftStars, .int v_draftTenants, .int v_draftLeases, .ref a_this_s, .ref a_this_kept, .ref a_this_isKept, .ref a_this_offers, .int v_offerMany, .ref a_this_seen, .int v_seenMany])), (a_this_s, .inl (G.2.1, 100, .inl v_s))] := hD
  refine lv_aload_n hx hb dX9_purse_5 rfl (lv_at hl 0 rfl) ?_
  refine lv_iload_n hx hb dX9_purse_6 rfl (lv_at hl 1 rfl) ?_
  obtain ⟨r4, hu, hf⟩ := bd1_some hf
  refine zRi (va_runV (As := [.int g1]) (rest := []) hC (c_X9_isTenant l G a_this a_this_text a_this_stars a_this_purses a_this_leases a_this_s a_this_kept a_this_isKept a_this_offers a_this_seen ((0 : Int32)) (v_trace) (v_typed) (v_next) (v_token) (v_place) (v_value) (v_fault) (v_squares) (v_starMany) (v_tenants) (v_draftSquares) (v_draftStars) (v_draftTenants) (v_draftLeases) (v_offerMany) (v_seenMany) (g1) r4 hu) (cwV 1 hts gX9_purse_X9_isTenant rfl rfl rfl hd_X9_isTenant ⟨(Nat.le_of_ble_eq_true rfl), (Nat.le_of_ble_eq_true rfl)⟩) (zPV hE hP [0] rfl 0 rfl rfl) rfl rfl hl.1 rfl (lv_room (Nat.le_of_ble_eq_true rfl)) dX9_purse_7 ⟨Nat.zero_le _, Nat.zero_le _⟩) ?_
  refine lv_if_eq (tgt := 24) hx hb dX9_purse_10 (by decide) (fun hc5 => ?_) (fun hc5 => ?_)
  · have hf := if_t hf hc5
    refine lv_iconst (v := (-1 : Int32)) hx hb dX9_purse_24 (by decide) ?_
    obtain ⟨hr0, hr1⟩ := so2 hf
    subst hr0
    subst hr1
    rw [← hQ]
    exact W.iret (v := (-1 : Int32)) hx hb hr (fun t ht hW => ⟨⟨rfl, by rw [ht]; exact hP⟩, hS.F ht⟩) hS.2.2 dX9_purse_25
  · have hf := if_f hf hc5
    refine lv_aload_n hx hb dX9_purse_13 rfl (lv_at hl 0 rfl) ?_
    refine va_get (D := G.1) (ci := 9) (v := .ref a_this_s) (C := RX9) (T := TX9) (N := 26) hx hb hts inX9 hown hK hP 0 rfl rfl 19 (by decide) lk22 (fun _ h9 => h9) rfl dX9_purse_14 ?_
    refine lv_iconst (v := (2 : Int32)) hx hb dX9_purse_17 (by decide) ?_
    refine lv_iload_n hx hb dX9_purse_18 rfl (lv_at hl 1 rfl) ?_
    refine lv_iadd hx hb dX9_purse_19 ?_
    obtain ⟨hg6, hf⟩ := gd_some hf
    refine va_iald hx hb hK hP 1 0 rfl rfl (inB_in hg6) dX9_purse_20 ?_
    refine lv_goto (tgt := 25) hx hb dX9_purse_21 (by decide) ?_
    obtain ⟨hr0, hr1⟩ := so2 hf
    subst hr0
    subst hr1
    rw [← hQ]
    exact W.iret (v := (v_s (((2 : Int32) + g1)).toNatClampNeg)) hx hb hr (fun t ht hW => ⟨⟨rfl, by rw [ht]; exact hP⟩, hS.F ht⟩) hS.2.2 dX9_purse_25
def f_X9_isLease  (v_squares : Int32) (v_tenants : Int32) (g1 : Int32) (g2 : Int32) (g3 : Int32) (g4 : Int32) (g5 : Int32) : Option (Int32) := bd1 (f_X9_isTenant (v_tenants) (g1)) fun r11 => if r11 = (0 : Int32) then (some ((0 : Int32))) else (bd1 (f_X9_isSquare (v_squares) (g2)) fun r13 => if r13 = (0 : Int32) then (some ((0 : Int32))) else (bd1 (f_X9_in (g3) ((1 : Int32)) (v_squares)) fun r15 => if r15 = (0 : Int32) then (some ((0 : Int32))) else (bd1 (f_X9_isNight (g4)) fun r17 => if r17 = (0 : Int32) then (some ((0 : Int32))) else (bd1 (f_X9_in (g5) (g4) ((99 : Int32))) fun r19 => if r19 = (0 : Int32) then (some ((0 : Int32))) else (some ((1 : Int32)))))))
abbrev rm_X9_isLease : Room := { frames := 2, cells := 0, slots := 0, locals := 43 }
set_option maxHeartbeats 4000000 in
set_option maxRecDepth 100000 in
theorem c_X9_isLease (l : Launch) (G : zG) (a_this : Nat) (a_this_text : Nat) (a_this_stars : Nat) (a_this_purses : Nat) (a_this_leases : Nat) (a_this_s : Nat) (a_this_kept : Nat) (a_this_isKept : Nat) (a_this_offers : Nat) (a_this_seen : Nat) (v_thrown : Int32) (v_trace : Int64) (v_typed : Int32) (v_next : Int32) (v_token : Int32) (v_place : Int32) (v_value : Int32) (v_fault : Int32) (v_squares : Int32) (v_starMany : Int32) (v_tenants : Int32) (v_draftSquares : Int32) (v_draftStars : Int32) (v_draftTenants : Int32) (v_draftLeases : Int32) (v_offerMany : Int32) (v_seenMany : Int32) (g1 : Int32) (g2 : Int32) (g3 : Int32) (g4 : Int32) (g5 : Int32) (R0 : Int32) (hf : f_X9_isLease v_squares v_tenants g1 g2 g3 g4 g5 = some R0) : Met l yX9_isLease wsX9_isLease rm_X9_isLease (va_Pc [.ref a_this, .int g1, .int g2, .int g3, .int g4, .int g5] (zR G [(a_this, .inr (9, [.int v_thrown, .long v_trace, .ref a_this_text, .int v_typed, .int v_next, .int v_token, .int v_place, .int v_value, .int v_fault, .int v_squares, .ref a_this_stars, .ref a_this_purses, .ref a_this_leases, .int v_starMany, .int v_tenants, .int v_draftSquares, .int v_draftStars, .int v_draftTenants, .int v_draftLeases, .ref a_this_s, .ref a_this_kept, .ref a_this_isKept, .ref a_this_offers, .int v_offerMany, .ref a_this_seen, .int v_seenMany]))])) (zSv (some (.int R0))) 0 0 (fun _ => False) := by
  refine Met.ofW (cc := cX9_isLease) (maxL := 6) (ret := (some .boolean)) (by decide) rfl ?_
  intro p e s m args below meth c s₁ B hml hv
  obtain ⟨hargs, hP, hE⟩ := hv
  have hx := B.exec
  have hb := B.bytes
  have hr := B.returns
  have hts := atoms_spec (ws := wsX9_isLease) B.pre
  have hown : s.vm.findClass RX9 = some m.cls := findClass_of_methodNamed B.named
  have hlocks := B.notSynchronized
  have hK := hE.1
  have hC : CallFix p m c cX9_isLease 6 s args wsX9_isLease RX9 := ⟨hx, hb, hml, hown, hts⟩
  have inX9 : ∀ w ∈ wsX90, w ∈ wsX9_isLease := by decide +kernel
  have lk38 := hts (.fieldLink RX9 38 "SkyLeasesModel" "squares" "I") (by decide +kernel)
  have hl := lv_entry ([.ref a_this, .int g1, .int g2, .int g3, .int g4, .int g5]) (n := 6) (Nat.le_of_ble_eq_true rfl)
  have hent : entryFrame m args 6 = F0 m 0 ((lg_sl ([.ref a_this, .int g1, .int g2, .int g3, .int g4, .int g5]) ++ List.replicate (6 - (lg_sl ([.ref a_this, .int g1, .int g2, .int g3, .int g4, .int g5])).length) Slot.unset).toArray) [] := by rw [hargs]; exact lg_entry_eq m [.ref a_this, .int g1, .int g2, .int g3, .int g4, .int g5] 6
  refine W.eq hent ?_
  clear hent
  generalize (lg_sl ([.ref a_this, .int g1, .int g2, .int g3, .int g4, .int g5]) ++ List.replicate (6 - (lg_sl ([.ref a_this, .int g1, .int g2, .int g3, .int g4, .int g5])).length) Slot.unset).toArray = ls at hl ⊢
  have hl : lv_has ls 6 [(0, .ref a_this), (1, .int g1), (2, .int g2), (3, .int g3), (4, .int g4), (5, .int g5)] := hl
  generalize hQ : MQ below _ args s 0 0 _ = QQ
  change W p l e rm_X9_isLease s m args below meth c s.heap [] 0 0 QQ _
  unfold f_X9_isLease at hf
  refine lv_aload_n hx hb dX9_isLease_0 rfl (lv_at hl 0 rfl) ?_
  refine lv_iload_n hx hb dX9_isLease_1 rfl (lv_at hl 1 rfl) ?_
  obtain ⟨r11, hu, hf⟩ := bd1_some hf
  refine zRi (va_runV (As := [.int g1]) (rest := []) hC (c_X9_isTenant l G a_this a_this_text a_this_stars a_this_purses a_this_leases a_this_s a_this_kept a_this_isKept a_this_offers a_this_seen (v_thrown) (v_trace) (v_typed) (v_next) (v_token) (v_place) (v_value) (v_fault) (v_squares) (v_starMany) (v_tenants) (v_draftSquares) (v_draftStars) (v_draftTenants) (v_draftLeases) (v_offerMany) (v_seenMany) (g1) r11 hu) (cwV 1 hts gX9_isLease_X9_isTenant rfl rfl rfl hd_X9_isTenant ⟨(Nat.le_of_ble_eq_true rfl), (Nat.le_of_ble_eq_true rfl)⟩) (zPV hE hP [0] rfl 0 rfl rfl) rfl rfl hl.1 rfl (lv_room (Nat.le_of_ble_eq_true rfl)) dX9_isLease_2 ⟨Nat.zero_le _, Nat.zero_le _⟩) ?_
  refine lv_if_eq (tgt := 52) hx hb dX9_isLease_5 (by decide) (fun hc12 => ?_) (fun hc12 => ?_)
  · have hf := if_t hf hc12
    refine lv_iconst (v := (0 : Int32)) hx hb dX9_isLease_52 (by decide) ?_
    have hr0 := so1 hf
    subst hr0
    rw [← hQ]
    exact W.zret (v := (0 : Int32)) hx hb hr rfl (fun t ht hW => ⟨rfl, ht⟩) (fun _ h => by cases h) dX9_isLease_53
  · have hf := if_f hf hc12
    refine lv_aload_n hx hb dX9_isLease_8 rfl (lv_at hl 0 rfl) ?_
    refine lv_iload_n hx hb dX9_isLease_9 rfl (lv_at hl 2 rfl) ?_
    obtain ⟨r13, hu, hf⟩ := bd1_some hf
    refine zRi (va_runV (As := [.int g2]) (rest := []) hC (c_X9_isSquare l G a_this a_this_text a_this_stars a_this_purses a_this_leases a_this_s a_this_kept a_this_isKept a_this_offers a_this_seen (v_thrown) (v_trace) (v_typed) (v_next) (v_token) (v_place) (v_value) (v_fault) (v_squares) (v_starMany) (v_tenants) (v_draftSquares) (v_draftStars) (v_draftTenants) (v_draftLeases) (v_offerMany) (v_seenMany) (g2) r13 hu) (cwV 1 hts gX9_isLease_X9_isSquare rfl rfl rfl hd_X9_isSquare ⟨(Nat.le_of_ble_eq_true rfl), (Nat.le_of_ble_eq_true rfl)⟩) (zPV hE hP [0] rfl 0 rfl rfl) rfl rfl hl.1 rfl (lv_room (Nat.le_of_ble_eq_true rfl)) dX9_isLease_10 ⟨Nat.zero_le _, Nat.zero_le _⟩) ?_
    refine lv_if_eq (tgt := 52) hx hb dX9_isLease_13 (by decide) (fun hc14 => ?_) (fun hc14 => ?_)
    · have hf := if_t hf hc14
      refine lv_iconst (v := (0 : Int32)) hx hb dX9_isLease_52 (by decide) ?_
      have hr0 := so1 hf
      subst hr0
      rw [← hQ]
      exact W.zret (v := (0 : Int32)) hx hb hr rfl (fun t ht hW => ⟨rfl, ht⟩) (fun _ h => by cases h) dX9_isLease_53
    · have hf := if_f hf hc14
      refine lv_iload_n hx hb dX9_isLease_16 rfl (lv_at hl 3 rfl) ?_
      refine lv_iconst (v := (1 : Int32)) hx hb dX9_isLease_17 (by decide) ?_
      refine lv_aload_n hx hb dX9_isLease_18 rfl (lv_at hl 0 rfl) ?_
      refine va_get (D := G.1) (ci := 9) (v := .int v_squares) (C := RX9) (T := TX9) (N := 26) hx hb hts inX9 hown hK hP 0 rfl rfl 9 (by decide) lk38 (fun _ h9 => h9) rfl dX9_isLease_19 ?_
      obtain ⟨r15, hu, hf⟩ := bd1_some hf
      refine zRi (va_runS (As := [.int g3, .int (1 : Int32), .int v_squares]) (rest := []) hC (c_X9_in l G (g3) ((1 : Int32)) (v_squares) r15 hu) (va_cwS 3 hts gX9_isLease_X9_in rfl rfl rfl hd_X9_in.2 ⟨(Nat.le_of_ble_eq_true rfl), (Nat.le_of_ble_eq_true rfl)⟩) (zPS hE hP [] rfl) rfl rfl hl.1 rfl (lv_room (Nat.le_of_ble_eq_true rfl)) dX9_isLease_22 ⟨Nat.zero_le _, Nat.zero_le _⟩) ?_
      refine lv_if_eq (tgt := 52) hx hb dX9_isLease_25 (by decide) (fun hc16 => ?_) (fun hc16 => ?_)
      · have hf := if_t hf hc16
        refine lv_iconst (v := (0 : Int32)) hx hb dX9_isLease_52 (by decide) ?_
        have hr0 := so1 hf
        subst hr0
        rw [← hQ]
        exact W.zret (v := (0 : Int32)) hx hb hr rfl (fun t ht hW => ⟨rfl, ht⟩) (fun _ h => by cases h) dX9_isLease_53
      · have hf := if_f hf hc16
        refine lv_iload hx hb dX9_isLease_28 (lv_at hl 4 rfl) ?_
        obtain ⟨r17, hu, hf⟩ := bd1_some hf
        refine zRi (va_runS (As := [.int g4]) (rest := []) hC (c_X9_isNight l G (g4) r17 hu) (va_cwS 1 hts gX9_isLease_X9_isNight rfl rfl rfl hd_X9_isNight.2 ⟨(Nat.le_of_ble_eq_true rfl), (Nat.le_of_ble_eq_true rfl)⟩) (zPS hE hP [] rfl) rfl rfl hl.1 rfl (lv_room (Nat.le_of_ble_eq_true rfl)) dX9_isLease_30 ⟨Nat.zero_le _, Nat.zero_le _⟩) ?_
        refine lv_if_eq (tgt := 52) hx hb dX9_isLease_33 (by decide) (fun hc18 => ?_) (fun hc18 => ?_)
        · have hf := if_t hf hc18
          refine lv_iconst (v := (0 : Int32)) hx hb dX9_isLease_52 (by decide) ?_
          have hr0 := so1 hf
          subst hr0
          rw [← hQ]
          exact W.zret (v := (0 : Int32)) hx hb hr rfl (fun t ht hW => ⟨rfl, ht⟩) (fun _ h => by cases h) dX9_isLease_53
        · have hf := if_f hf hc18
          refine lv_iload hx hb dX9_isLease_36 (lv_at hl 5 rfl) ?_
          refine lv_iload hx hb dX9_isLease_38 (lv_at hl 4 rfl) ?_
          refine lv_bipush (v := (99 : Int32)) hx hb dX9_isLease_40 (by decide) ?_
          obtain ⟨r19, hu, hf⟩ := bd1_some hf
          refine zRi (va_runS (As := [.int g5, .int g4, .int (99 : Int32)]) (rest := []) hC (c_X9_in l G (g5) (g4) ((99 : Int32)) r19 hu) (va_cwS 3 hts gX9_isLease_X9_in rfl rfl rfl hd_X9_in.2 ⟨(Nat.le_of_ble_eq_true rfl), (Nat.le_of_ble_eq_true rfl)⟩) (zPS hE hP [] rfl) rfl rfl hl.1 rfl (lv_room (Nat.le_of_ble_eq_true rfl)) dX9_isLease_42 ⟨Nat.zero_le _, Nat.zero_le _⟩) ?_
          refine lv_if_eq (tgt := 52) hx hb dX9_isLease_45 (by decide) (fun hc20 => ?_) (fun hc20 => ?_)
          · have hf := if_t hf hc20
            refine lv_iconst (v := (0 : Int32)) hx hb dX9_isLease_52 (by decide) ?_
            have hr0 := so1 hf
            subst hr0
            rw [← hQ]
            exact W.zret (v := (0 : Int32)) hx hb hr rfl (fun t ht hW => ⟨rfl, ht⟩) (fun _ h => by cases h) dX9_isLease_53
          · have hf := if_f hf hc20
            refine lv_iconst (v := (1 : Int32)) hx hb dX9_isLease_48 (by decide) ?_
            refine lv_goto (tgt := 53) hx hb dX9_isLease_49 (by decide) ?_
            have hr0 := so1 hf
            subst hr0
            rw [← hQ]
            exact W.zret (v := (1 : Int32)) hx hb hr rfl (fun t ht hW => ⟨rfl, ht⟩) (fun _ h => by cases h) dX9_isLease_53
def f_X9_notes_b85   (x2 : Int32) (x3 : Int32) : Nat → Int32 → (Nat → Int32) → Option ((Nat → Int32))
  | 0, _, _ => none
  | n85 + 1, x4, v_s => if (5 : Int32) ≤ x4 then (gd (inB (57 : Int32) 100) (gd (inB (57 : Int32) 100) (nm (upd v_s ((57 : Int32)).toNatClampNeg ((v_s ((57 : Int32)).toNatClampNeg) + (1 : Int32))) fun y25 => some (y25)))) else (gd (inB (((7 : Int32) + ((5 : Int32) * x2)) + x4) 100) (gd (inB ((x3 + (2 : Int32)) + x4) 100) (nm (upd v_s (((x3 + (2 : Int32)) + x4)).toNatClampNeg (v_s ((((7 : Int32) + ((5 : Int32) * x2)) + x4)).toNatClampNeg)) fun y28 => f_X9_notes_b85 x2 x3 n85 ((x4 + (1 : Int32))) (y28))))
def f_X9_notes_b52    (x1 : Int32) (x2 : Int32) (v_s : (Nat → Int32)) : Option ((Nat → Int32)) := gd (inB (57 : Int32) 100) (nm (((58 : Int32) + ((7 : Int32) * (v_s ((57 : Int32)).toNatClampNeg)))) fun y30 => gd (inB y30 100) (nm (upd v_s (y30).toNatClampNeg x1) fun y32 => gd (inB (y30 + (1 : Int32)) 100) (nm (upd y32 ((y30 + (1 : Int32))).toNatClampNeg x2) fun y34 => f_X9_notes_b85 (x2) (y30) zF ((0 : Int32)) (y34))))
def f_X9_notes_b14   (x1 : Int32) (x2 : Int32) : Nat → Int32 → (Nat → Int32) → Option ((Nat → Int32))
  | 0, _, _ => none
  | n14 + 1, x3, v_s => if (35 : Int32) ≤ x3 then (gd (inB (57 : Int32) 100) (nm (upd v_s ((57 : Int32)).toNatClampNeg (5 : Int32)) fun y37 => f_X9_notes_b52 (x1) (x2) (y37))) else (gd (inB ((65 : Int32) + x3) 100) (gd (inB ((58 : Int32) + x3) 100) (nm (upd v_s (((58 : Int32) + x3)).toNatClampNeg (v_s (((65 : Int32) + x3)).toNatClampNeg)) fun y40 => f_X9_notes_b14 x1 x2 n14 ((x3 + (1 : Int32))) (y40))))
def f_X9_notes  (v_s : (Nat → Int32)) (g1 : Int32) (g2 : Int32) : Option ((Nat → Int32)) := gd (inB (57 : Int32) 100) (if (v_s ((57 : Int32)).toNatClampNeg) = (6 : Int32) then (f_X9_notes_b14 (g1) (g2) zF ((0 : Int32)) (v_s)) else (f_X9_notes_b52 (g1) (g2) (v_s)))
abbrev rm_X9_notes : Room := { frames := 0, cells := 0, slots := 0, locals := 0 }
set_option maxHeartbeats 4000000 in
set_option maxRecDepth 100000 in
theorem c_X9_notes (l : Launch) (G : zG) (sz : Nat) (a_this : Nat) (a_this_s : Nat) (a_this_text : Nat) (a_this_stars : Nat) (a_this_purses : Nat) (a_this_leases : Nat) (a_this_kept : Nat) (a_this_isKept : Nat) (a_this_offers : Nat) (a_this_seen : Nat) (v_thrown : Int32) (v_trace : Int64) (v_typed : Int32) (v_next : Int32) (v_token : Int32) (v_place : Int32) (v_value : Int32) (v_fault : Int32) (v_squares : Int32) (v_starMany : Int32) (v_tenants : Int32) (v_draftSquares : Int32) (v_draftStars : Int32) (v_draftTenants : Int32) (v_draftLeases : Int32) (v_offerMany : Int32) (v_seenMany : Int32) (v_s : (Nat → Int32)) (g1 : Int32) (g2 : Int32) (R1 : (Nat → Int32)) (hf : f_X9_notes v_s g1 g2 = some R1) : Met l yX9_notes wsX9_notes rm_X9_notes (va_Pc [.ref a_this, .int g1, .int g2] (zB G [(a_this, .inr (9, [.int v_thrown, .long v_trace, .ref a_this_text, .int v_typed, .int v_next, .int v_token, .int v_place, .int v_value, .int v_fault, .int v_squares, .ref a_this_stars, .ref a_this_purses, .ref a_this_leases, .int v_starMany, .int v_tenants, .int v_draftSquares, .int v_draftStars, .int v_draftTenants, .int v_draftLeases, .ref a_this_s, .ref a_this_kept, .ref a_this_isKept, .ref a_this_offers, .int v_offerMany, .ref a_this_seen, .int v_seenMany])), (a_this_s, .inl (G.2.1, 100, .inl v_s))] sz)) (zQ G none [(a_this, .inr (9, [.int v_thrown, .long v_trace, .ref a_this_text, .int v_typed, .int v_next, .int v_token, .int v_place, .int v_value, .int v_fault, .int v_squares, .ref a_this_stars, .ref a_this_purses, .ref a_this_leases, .int v_starMany, .int v_tenants, .int v_draftSquares, .int v_draftStars, .int v_draftTenants, .int v_draftLeases, .ref a_this_s, .ref a_this_kept, .ref a_this_isKept, .ref a_this_offers, .int v_offerMany, .ref a_this_seen, .int v_seenMany])), (a_this_s, .inl (G.2.1, 100, .inl R1))] (va_A [(a_this, .inr (9, [.int v_thrown, .long v_trace, .ref a_this_text, .int v_typed, .int v_next, .int v_token, .int v_place, .int v_value, .int v_fault, .int v_squares, .ref a_this_stars, .ref a_this_purses, .ref a_this_leases, .int v_starMany, .int v_tenants, .int v_draftSquares, .int v_draftStars, .int v_draftTenants, .int v_draftLeases, .ref a_this_s, .ref a_this_kept, .ref a_this_isKept, .ref a_this_offers, .int v_offerMany, .ref a_this_seen, .int v_seenMany])), (a_this_s, .inl (G.2.1, 100, .inl v_s))] sz)) 0 0 (va_A [(a_this, .inr (9, [.int v_thrown, .long v_trace, .ref a_this_text, .int v_typed, .int v_next, .int v_token, .int v_place, .int v_value, .int v_fault, .int v_squares, .ref a_this_stars, .ref a_this_purses, .ref a_this_leases, .int v_starMany, .int v_tenants, .int v_draftSquares, .int v_draftStars, .int v_draftTenants, .int v_draftLeases, .ref a_this_s, .ref a_this_kept, .ref a_this_isKept, .ref a_this_offers, .int v_offerMany, .ref a_this_seen, .int v_seenMany])), (a_this_s, .inl (G.2.1, 100, .inl v_s))] sz) := by
  refine Met.ofW (cc := cX9_notes) (maxL := 5) (ret := none) (by decide) rfl ?_
  intro p e s m args below meth c s₁ B hml hv
  obtain ⟨hargs, hsz, hP, hD0, hE⟩ := hv
  have hx := B.exec
  have hb := B.bytes
  have hr := B.returns
  have hts := atoms_spec (ws := wsX9_notes) B.pre
  have hown : s.vm.findClass RX9 = some m.cls := findClass_of_methodNamed B.named
  have hlocks := B.notSynchronized
  have hK := hE.1
  have hC : CallFix p m c cX9_notes 5 s args wsX9_notes RX9 := ⟨hx, hb, hml, hown, hts⟩
  have inX9 : ∀ w ∈ wsX90, w ∈ wsX9_notes := by decide +kernel
  have lk22 := hts (.fieldLink RX9 22 "SkyLeasesModel" "s" "[I") (by decide +kernel)
  subst hsz
  have hD := hD0.self (sz := s.heap.size)
  generalize hAe : va_A [(a_this, .inr (9, [.int v_thrown, .long v_trace, .ref a_this_text, .int v_typed, .int v_next, .int v_token, .int v_place, .int v_value, .int v_fault, .int v_squares, .ref a_this_stars, .ref a_this_purses, .ref a_this_leases, .int v_starMany, .int v_tenants, .int v_draftSquares, .int v_draftStars, .int v_draftTenants, .int v_draftLeases, .ref a_this_s, .ref a_this_kept, .ref a_this_isKept, .ref a_this_offers, .int v_offerMany, .ref a_this_seen, .int v_seenMany])), (a_this_s, .inl (G.2.1, 100, .inl v_s))] s.heap.size = A at hD ⊢
  have hA : ∀ q : Nat, s.heap.size ≤ q → A q := fun q h => by rw [← hAe]; exact Or.inr h
  have hS : va_S A s.heap s.heap [] := va_S.rf
  have hP : va_P G.1 vwCl [(a_this, .inr (9, [.int v_thrown, .long v_trace, .ref a_this_text, .int v_typed, .int v_next, .int v_token, .int v_place, .int v_value, .int v_fault, .int v_squares, .ref a_this_stars, .ref a_this_purses, .ref a_this_leases, .int v_starMany, .int v_tenants, .int v_draftSquares, .int v_draftStars, .int v_draftTenants, .int v_draftLeases, .ref a_this_s, .ref a_this_kept, .ref a_this_isKept, .ref a_this_offers, .int v_offerMany, .ref a_this_seen, .int v_seenMany])), (a_this_s, .inl (G.2.1, 100, .inl v_s))] s.heap := hP
  have hl := lv_entry ([.ref a_this, .int g1, .int g2]) (n := 5) (Nat.le_of_ble_eq_true rfl)
  have hent : entryFrame m args 5 = F0 m 0 ((lg_sl ([.ref a_this, .int g1, .int g2]) ++ List.replicate (5 - (lg_sl ([.ref a_this, .int g1, .int g2])).length) Slot.unset).toArray) [] := by rw [hargs]; exact lg_entry_eq m [.ref a_this, .int g1, .int g2] 5
  refine W.eq hent ?_
  clear hent
  generalize (lg_sl ([.ref a_this, .int g1, .int g2]) ++ List.replicate (5 - (lg_sl ([.ref a_this, .int g1, .int g2])).length) Slot.unset).toArray = ls at hl ⊢
  have hl : lv_has ls 5 [(0, .ref a_this), (1, .int g1), (2, .int g2)] := hl
  generalize hQ : MQ below _ args s 0 0 _ = QQ
  change W p l e rm_X9_notes s m args below meth c s.heap [] 0 0 QQ _
  have j85 : ∀ (x2 : Int32), ∀ (x3 : Int32), ∀ (nn : Nat), ∀ (x4 : Int32), ∀ (v_s : (Nat → Int32)), ∀ (ls : Array Slot), lv_has ls 5 [(0, .ref a_this), (2, .int x2), (3, .int x3), (4, .int x4)] → ∀ (H : Heap) (locs : List Loc), va_P G.1 vwCl [(a_this, .inr (9, [.int v_thrown, .long v_trace, .ref a_this_text, .int v_typed, .int v_next, .int v_token, .int v_place, .int v_value, .int v_fault, .int v_squares, .ref a_this_stars, .ref a_this_purses, .ref a_this_leases, .int v_starMany, .int v_tenants, .int v_draftSquares, .int v_draftStars, .int v_draftTenants, .int v_draftLeases, .ref a_this_s, .ref a_this_kept, .ref a_this_isKept, .ref a_this_offers, .int v_offerMany, .ref a_this_seen, .int v_seenMany])), (a_this_s, .inl (G.2.1, 100, .inl v_s))] H → va_D A [(a_this, .inr (9, [.int v_thrown, .long v_trace, .ref a_this_text, .int v_typed, .int v_next, .int v_token, .int v_place, .int v_value, .int v_fault, .int v_squares, .ref a_this_stars, .ref a_this_purses, .ref a_this_leases, .int v_starMany, .int v_tenants, .int v_draftSquares, .int v_draftStars, .int v_draftTenants, .int v_draftLeases, .ref a_this_s, .ref a_this_kept, .ref a_this_isKept, .ref a_this_offers, .int v_offerMany, .ref a_this_seen, .int v_seenMany])), (a_this_s, .inl (G.2.1, 100, .inl v_s))] → va_S A s.heap H locs → f_X9_notes_b85 x2 x3 nn x4 v_s = some R1 → W p l e rm_X9_notes s m args below meth c H locs 0 0 QQ (F0 m 85 ls []) := by
    intro x2 x3
    intro nn
    induction nn with
    | zero =>
      intro x4 v_s ls hl H locs hP hD hS hf
      rw [f_X9_notes_b85] at hf
      cases hf
    | succ n85 ih =>
      intro x4 v_s ls hl H locs hP hD hS hf
      rw [f_X9_notes_b85] at hf
      refine lv_iload hx hb dX9_notes_85 (lv_at hl 3 rfl) ?_
      refine lv_iconst (v := (5 : Int32)) hx hb dX9_notes_87 (by decide) ?_
      refine lv_icmp_ge (tgt := 122) hx hb dX9_notes_88 (by decide) (fun hc22 => ?_) (fun hc22 => ?_)
      · have hf := if_t hf hc22
        refine lv_aload_n hx hb dX9_notes_122 rfl (lv_at hl 0 rfl) ?_
        refine va_get (D := G.1) (ci := 9) (v := .ref a_this_s) (C := RX9) (T := TX9) (N := 26) hx hb hts inX9 hown hK hP 0 rfl rfl 19 (by decide) lk22 (fun _ h9 => h9) rfl dX9_notes_123 ?_
        refine lv_bipush (v := (57 : Int32)) hx hb dX9_notes_126 (by decide) ?_
        refine lv_dup2_11 hx hb dX9_notes_128 rfl rfl ?_
        obtain ⟨hg23, hf⟩ := gd_some hf
        refine va_iald hx hb hK hP 1 0 rfl rfl (inB_in hg23) dX9_notes_129 ?_
        refine lv_iconst (v := (1 : Int32)) hx hb dX9_notes_130 (by decide) ?_
        refine lv_iadd hx hb dX9_notes_131 ?_
        obtain ⟨hg24, hf⟩ := gd_some hf
        refine z_iast hx hb hK hP hD hS 1 0 rfl rfl (inB_in hg24) dX9_notes_132 (fun gg => [(a_this, .inr (9, [.int v_thrown, .long v_trace, .ref a_this_text, .int v_typed, .int v_next, .int v_token, .int v_place, .int v_value, .int v_fault, .int v_squares, .ref a_this_stars, .ref a_this_purses, .ref a_this_leases, .int v_starMany, .int v_tenants, .int v_draftSquares, .int v_draftStars, .int v_draftTenants, .int v_draftLeases, .ref a_this_s, .ref a_this_kept, .ref a_this_isKept, .ref a_this_offers, .int v_offerMany, .ref a_this_seen, .int v_seenMany])), (a_this_s, .inl (G.2.1, 100, .inl gg))]) (fun gg => rfl) (fun y25 H locs ey25 hP hD hS => ?_)
        have hf := nm_to hf ey25
        have hP : va_P G.1 vwCl [(a_this, .inr (9, [.int v_thrown, .long v_trace, .ref a_this_text, .int v_typed, .int v_next, .int v_token, .int v_place, .int v_value, .int v_fault, .int v_squares, .ref a_this_stars, .ref a_this_purses, .ref a_this_leases, .int v_starMany, .int v_tenants, .int v_draftSquares, .int v_draftStars, .int v_draftTenants, .int v_draftLeases, .ref a_this_s, .ref a_this_kept, .ref a_this_isKept, .ref a_this_offers, .int v_offerMany, .ref a_this_seen, .int v_seenMany])), (a_this_s, .inl (G.2.1, 100, .inl y25))] H := hP
        have hD : va_D A [(a_this, .inr (9, [.int v_thrown, .long v_trace, .ref a_this_text, .int v_typed, .int v_next, .int v_token, .int v_place, .int v_value, .int v_fault, .int v_squares, .ref a_this_stars, .ref a_this_purses, .ref a_this_leases, .int v_starMany, .int v_tenants, .int v_draftSquares, .int v_draftStars, .int v_draftTenants, .int v_draftLeases, .ref a_this_s, .ref a_this_kept, .ref a_this_isKept, .ref a_this_offers, .int v_offerMany, .ref a_this_seen, .int v_seenMany])), (a_this_s, .inl (G.2.1, 100, .inl y25))] := hD
        have hr0 := so1 hf
        subst hr0
        rw [← hQ]
        exact W.vret hx hb hr (fun t ht hW => ⟨⟨rfl, by rw [ht]; exact hP⟩, hS.F ht⟩) hS.2.2 dX9_notes_133
      · have hf := if_f hf hc22
        refine lv_aload_n hx hb dX9_notes_91 rfl (lv_at hl 0 rfl) ?_
        refine va_get (D := G.1) (ci := 9) (v := .ref a_this_s) (C := RX9) (T := TX9) (N := 26) hx hb hts inX9 hown hK hP 0 rfl rfl 19 (by decide) lk22 (fun _ h9 => h9) rfl dX9_notes_92 ?_
        refine lv_iload_n hx hb dX9_notes_95 rfl (lv_at hl 2 rfl) ?_
        refine lv_iconst (v := (2 : Int32)) hx hb dX9_notes_96 (by decide) ?_
        refine lv_iadd hx hb dX9_notes_97 ?_
        refine lv_iload hx hb dX9_notes_98 (lv_at hl 3 rfl) ?_
        refine lv_iadd hx hb dX9_notes_100 ?_
        refine lv_aload_n hx hb dX9_notes_101 rfl (lv_at hl 0 rfl) ?_
        refine va_get (D := G.1) (ci := 9) (v := .ref a_this_s) (C := RX9) (T := TX9) (N := 26) hx hb hts inX9 hown hK hP 0 rfl rfl 19 (by decide) lk22 (fun _ h9 => h9) rfl dX9_notes_102 ?_
        refine lv_bipush (v := (7 : Int32)) hx hb dX9_notes_105 (by decide) ?_
        refine lv_iconst (v := (5 : Int32)) hx hb dX9_notes_107 (by decide) ?_
        refine lv_iload_n hx hb dX9_notes_108 rfl (lv_at hl 1 rfl) ?_
        refine lv_imul hx hb dX9_notes_109 ?_
        refine lv_iadd hx hb dX9_notes_110 ?_
        refine lv_iload hx hb dX9_notes_111 (lv_at hl 3 rfl) ?_
        refine lv_iadd hx hb dX9_notes_113 ?_
        obtain ⟨hg26, hf⟩ := gd_some hf
        refine va_iald hx hb hK hP 1 0 rfl rfl (inB_in hg26) dX9_notes_114 ?_
        obtain ⟨hg27, hf⟩ := gd_some hf
        refine z_iast hx hb hK hP hD hS 1 0 rfl rfl (inB_in hg27) dX9_notes_115 (fun gg => [(a_this, .inr (9, [.int v_thrown, .long v_trace, .ref a_this_text, .int v_typed, .int v_next, .int v_token, .int v_place, .int v_value, .int v_fault, .int v_squares, .ref a_this_stars, .ref a_this_purses, .ref a_this_leases, .int v_starMany, .int v_tenants, .int v_draftSquares, .int v_draftStars, .int v_draftTenants, .int v_draftLeases, .ref a_this_s, .ref a_this_kept, .ref a_this_isKept, .ref a_this_offers, .int v_offerMany, .ref a_this_seen, .int v_seenMany])), (a_this_s, .inl (G.2.1, 100, .inl gg))]) (fun gg => rfl) (fun y28 H locs ey28 hP hD hS => ?_)
        have hf := nm_to hf ey28
        have hP : va_P G.1 vwCl [(a_this, .inr (9, [.int v_thrown, .long v_trace, .ref a_this_text, .int v_typed, .int v_next, .int v_token, .int v_place, .int v_value, .int v_fault, .int v_squares, .ref a_this_stars, .ref a_this_purses, .ref a_this_leases, .int v_starMany, .int v_tenants, .int v_draftSquares, .int v_draftStars, .int v_draftTenants, .int v_draftLeases, .ref a_this_s, .ref a_this_kept, .ref a_this_isKept, .ref a_this_offers, .int v_offerMany, .ref a_this_seen, .int v_seenMany])), (a_this_s, .inl (G.2.1, 100, .inl y28))] H := hP
        have hD : va_D A [(a_this, .inr (9, [.int v_thrown, .long v_trace, .ref a_this_text, .int v_typed, .int v_next, .int v_token, .int v_place, .int v_value, .int v_fault, .int v_squares, .ref a_this_stars, .ref a_this_purses, .ref a_this_leases, .int v_starMany, .int v_tenants, .int v_draftSquares, .int v_draftStars, .int v_draftTenants, .int v_draftLeases, .ref a_this_s, .ref a_this_kept, .ref a_this_isKept, .ref a_this_offers, .int v_offerMany, .ref a_this_seen, .int v_seenMany])), (a_this_s, .inl (G.2.1, 100, .inl y28))] := hD
        refine lv_iinc (v := (x4 + (1 : Int32))) (lv' := [(4, .int (x4 + (1 : Int32))), (0, .ref a_this), (2, .int x2), (3, .int x3)]) hx hb dX9_notes_116 hl (k := 3) rfl rfl (by decide) rfl (fun ls hl => ?_)
        refine lv_goto (tgt := 85) hx hb dX9_notes_119 (by decide) ?_
        exact ih ((x4 + (1 : Int32))) (y28) ls (lv_sub hl [1, 2, 3, 0] rfl) _ _ hP hD hS hf
  have j52 : ∀ (x1 : Int32), ∀ (x2 : Int32), ∀ (v_s : (Nat → Int32)), ∀ (ls : Array Slot), lv_has ls 5 [(0, .ref a_this), (1, .int x1), (2, .int x2)] → ∀ (H : Heap) (locs : List Loc), va_P G.1 vwCl [(a_this, .inr (9, [.int v_thrown, .long v_trace, .ref a_this_text, .int v_typed, .int v_next, .int v_token, .int v_place, .int v_value, .int v_fault, .int v_squares, .ref a_this_stars, .ref a_this_purses, .ref a_this_leases, .int v_starMany, .int v_tenants, .int v_draftSquares, .int v_draftStars, .int v_draftTenants, .int v_draftLeases, .ref a_this_s, .ref a_this_kept, .ref a_this_isKept, .ref a_this_offers, .int v_offerMany, .ref a_this_seen, .int v_seenMany])), (a_this_s, .inl (G.2.1, 100, .inl v_s))] H → va_D A [(a_this, .inr (9, [.int v_thrown, .long v_trace, .ref a_this_text, .int v_typed, .int v_next, .int v_token, .int v_place, .int v_value, .int v_fault, .int v_squares, .ref a_this_stars, .ref a_this_purses, .ref a_this_leases, .int v_starMany, .int v_tenants, .int v_draftSquares, .int v_draftStars, .int v_draftTenants, .int v_draftLeases, .ref a_this_s, .ref a_this_kept, .ref a_this_isKept, .ref a_this_offers, .int v_offerMany, .ref a_this_seen, .int v_seenMany])), (a_this_s, .inl (G.2.1, 100, .inl v_s))] → va_S A s.heap H locs → f_X9_notes_b52 x1 x2 v_s = some R1 → W p l e rm_X9_notes s m args below meth c H locs 0 0 QQ (F0 m 52 ls []) := by
    intro x1 x2 v_s ls hl H locs hP hD hS hf
    unfold f_X9_notes_b52 at hf
    refine lv_bipush (v := (58 : Int32)) hx hb dX9_notes_52 (by decide) ?_
    refine lv_bipush (v := (7 : Int32)) hx hb dX9_notes_54 (by decide) ?_
    refine lv_aload_n hx hb dX9_notes_56 rfl (lv_at hl 0 rfl) ?_
    refine va_get (D := G.1) (ci := 9) (v := .ref a_this_s) (C := RX9) (T := TX9) (N := 26) hx hb hts inX9 hown hK hP 0 rfl rfl 19 (by decide) lk22 (fun _ h9 => h9) rfl dX9_notes_57 ?_
    refine lv_bipush (v := (57 : Int32)) hx hb dX9_notes_60 (by decide) ?_
    obtain ⟨hg29, hf⟩ := gd_some hf
    refine va_iald hx hb hK hP 1 0 rfl rfl (inB_in hg29) dX9_notes_62 ?_
    refine lv_imul hx hb dX9_notes_63 ?_
    refine lv_iadd hx hb dX9_notes_64 ?_
    refine lv_topi (fun y30 ey30 => ?_)
    have hf := nm_to hf ey30
    refine lv_istore_n (lv' := [(3, .int y30), (0, .ref a_this), (1, .int x1), (2, .int x2)]) hx hb dX9_notes_65 rfl hl (by decide) rfl (fun ls hl => ?_)
    refine lv_aload_n hx hb dX9_notes_66 rfl (lv_at hl 1 rfl) ?_
    refine va_get (D := G.1) (ci := 9) (v := .ref a_this_s) (C := RX9) (T := TX9) (N := 26) hx hb hts inX9 hown hK hP 0 rfl rfl 19 (by decide) lk22 (fun _ h9 => h9) rfl dX9_notes_67 ?_
    refine lv_iload_n hx hb dX9_notes_70 rfl (lv_at hl 0 rfl) ?_
    refine lv_iload_n hx hb dX9_notes_71 rfl (lv_at hl 2 rfl) ?_
    obtain ⟨hg31, hf⟩ := gd_some hf
    refine z_iast hx hb hK hP hD hS 1 0 rfl rfl (inB_in hg31) dX9_notes_72 (fun gg => [(a_this, .inr (9, [.int v_thrown, .long v_trace, .ref a_this_text, .int v_typed, .int v_next, .int v_token, .int v_place, .int v_value, .int v_fault, .int v_squares, .ref a_this_stars, .ref a_this_purses, .ref a_this_leases, .int v_starMany, .int v_tenants, .int v_draftSquares, .int v_draftStars, .int v_draftTenants, .int v_draftLeases, .ref a_this_s, .ref a_this_kept, .ref a_this_isKept, .ref a_this_offers, .int v_offerMany, .ref a_this_seen, .int v_seenMany])), (a_this_s, .inl (G.2.1, 100, .inl gg))]) (fun gg => rfl) (fun y32 H locs ey32 hP hD hS => ?_)
    have hf := nm_to hf ey32
    have hP : va_P G.1 vwCl [(a_this, .inr (9, [.int v_thrown, .long v_trace, .ref a_this_text, .int v_typed, .int v_next, .int v_token, .int v_place, .int v_value, .int v_fault, .int v_squares, .ref a_this_stars, .ref a_this_purses, .ref a_this_leases, .int v_starMany, .int v_tenants, .int v_draftSquares, .int v_draftStars, .int v_draftTenants, .int v_draftLeases, .ref a_this_s, .ref a_this_kept, .ref a_this_isKept, .ref a_this_offers, .int v_offerMany, .ref a_this_seen, .int v_seenMany])), (a_this_s, .inl (G.2.1, 100, .inl y32))] H := hP
    have hD : va_D A [(a_this, .inr (9, [.int v_thrown, .long v_trace, .ref a_this_text, .int v_typed, .int v_next, .int v_token, .int v_place, .int v_value, .int v_fault, .int v_squares, .ref a_this_stars, .ref a_this_purses, .ref a_this_leases, .int v_starMany, .int v_tenants, .int v_draftSquares, .int v_draftStars, .int v_draftTenants, .int v_draftLeases, .ref a_this_s, .ref a_this_kept, .ref a_this_isKept, .ref a_this_offers, .int v_offerMany, .ref a_this_seen, .int v_seenMany])), (a_this_s, .inl (G.2.1, 100, .inl y32))] := hD
    refine lv_aload_n hx hb dX9_notes_73 rfl (lv_at hl 1 rfl) ?_
    refine va_get (D := G.1) (ci := 9) (v := .ref a_this_s) (C := RX9) (T := TX9) (N := 26) hx hb hts inX9 hown hK hP 0 rfl rfl 19 (by decide) lk22 (fun _ h9 => h9) rfl dX9_notes_74 ?_
    refine lv_iload_n hx hb dX9_notes_77 rfl (lv_at hl 0 rfl) ?_
    refine lv_iconst (v := (1 : Int32)) hx hb dX9_notes_78 (by decide) ?_
    refine lv_iadd hx hb dX9_notes_79 ?_
    refine lv_iload_n hx hb dX9_notes_80 rfl (lv_at hl 3 rfl) ?_
    obtain ⟨hg33, hf⟩ := gd_some hf
    refine z_iast hx hb hK hP hD hS 1 0 rfl rfl (inB_in hg33) dX9_notes_81 (fun gg => [(a_this, .inr (9, [.int v_thrown, .long v_trace, .ref a_this_text, .int v_typed, .int v_next, .int v_token, .int v_place, .int v_value, .int v_fault, .int v_squares, .ref a_this_stars, .ref a_this_purses, .ref a_this_leases, .int v_starMany, .int v_tenants, .int v_draftSquares, .int v_draftStars, .int v_draftTenants, .int v_draftLeases, .ref a_this_s, .ref a_this_kept, .ref a_this_isKept, .ref a_this_offers, .int v_offerMany, .ref a_this_seen, .int v_seenMany])), (a_this_s, .inl (G.2.1, 100, .inl gg))]) (fun gg => rfl) (fun y34 H locs ey34 hP hD hS => ?_)
    have hf := nm_to hf ey34
    have hP : va_P G.1 vwCl [(a_this, .inr (9, [.int v_thrown, .long v_trace, .ref a_this_text, .int v_typed, .int v_next, .int v_token, .int v_place, .int v_value, .int v_fault, .int v_squares, .ref a_this_stars, .ref a_this_purses, .ref a_this_leases, .int v_starMany, .int v_tenants, .int v_draftSquares, .int v_draftStars, .int v_draftTenants, .int v_draftLeases, .ref a_this_s, .ref a_this_kept, .ref a_this_isKept, .ref a_this_offers, .int v_offerMany, .ref a_this_seen, .int v_seenMany])), (a_this_s, .inl (G.2.1, 100, .inl y34))] H := hP
    have hD : va_D A [(a_this, .inr (9, [.int v_thrown, .long v_trace, .ref a_this_text, .int v_typed, .int v_next, .int v_token, .int v_place, .int v_value, .int v_fault, .int v_squares, .ref a_this_stars, .ref a_this_purses, .ref a_this_leases, .int v_starMany, .int v_tenants, .int v_draftSquares, .int v_draftStars, .int v_draftTenants, .int v_draftLeases, .ref a_this_s, .ref a_this_kept, .ref a_this_isKept, .ref a_this_offers, .int v_offerMany, .ref a_this_seen, .int v_seenMany])), (a_this_s, .inl (G.2.1, 100, .inl y34))] := hD
    refine lv_iconst (v := (0 : Int32)) hx hb dX9_notes_82 (by decide) ?_
    refine lv_istore (lv' := [(4, .int (0 : Int32)), (3, .int y30), (0, .ref a_this), (1, .int x1), (2, .int x2)]) hx hb dX9_notes_83 hl (by decide) rfl (fun ls hl => ?_)
    exact j85 (x2) (y30) zF ((0 : Int32)) (y34) ls (lv_sub hl [2, 4, 1, 0] rfl) _ _ hP hD hS hf
  have j14 : ∀ (x1 : Int32), ∀ (x2 : Int32), ∀ (nn : Nat), ∀ (x3 : Int32), ∀ (v_s : (Nat → Int32)), ∀ (ls : Array Slot), lv_has ls 5 [(0, .ref a_this), (1, .int x1), (2, .int x2), (3, .int x3)] → ∀ (H : Heap) (locs : List Loc), va_P G.1 vwCl [(a_this, .inr (9, [.int v_thrown, .long v_trace, .ref a_this_text, .int v_typed, .int v_next, .int v_token, .int v_place, .int v_value, .int v_fault, .int v_squares, .ref a_this_stars, .ref a_this_purses, .ref a_this_leases, .int v_starMany, .int v_tenants, .int v_draftSquares, .int v_draftStars, .int v_draftTenants, .int v_draftLeases, .ref a_this_s, .ref a_this_kept, .ref a_this_isKept, .ref a_this_offers, .int v_offerMany, .ref a_this_seen, .int v_seenMany])), (a_this_s, .inl (G.2.1, 100, .inl v_s))] H → va_D A [(a_this, .inr (9, [.int v_thrown, .long v_trace, .ref a_this_text, .int v_typed, .int v_next, .int v_token, .int v_place, .int v_value, .int v_fault, .int v_squares, .ref a_this_stars, .ref a_this_purses, .ref a_this_leases, .int v_starMany, .int v_tenants, .int v_draftSquares, .int v_draftStars, .int v_draftTenants, .int v_draftLeases, .ref a_this_s, .ref a_this_kept, .ref a_this_isKept, .ref a_this_offers, .int v_offerMany, .ref a_this_seen, .int v_seenMany])), (a_this_s, .inl (G.2.1, 100, .inl v_s))] → va_S A s.heap H locs → f_X9_notes_b14 x1 x2 nn x3 v_s = some R1 → W p l e rm_X9_notes s m args below meth c H locs 0 0 QQ (F0 m 14 ls []) := by
    intro x1 x2
    intro nn
    induction nn with
    | zero =>
      intro x3 v_s ls hl H locs hP hD hS hf
      rw [f_X9_notes_b14] at hf
      cases hf
    | succ n14 ih =>
      intro x3 v_s ls hl H locs hP hD hS hf
      rw [f_X9_notes_b14] at hf
      refine lv_iload_n hx hb dX9_notes_14 rfl (lv_at hl 3 rfl) ?_
      refine lv_bipush (v := (35 : Int32)) hx hb dX9_notes_15 (by decide) ?_
      refine lv_icmp_ge (tgt := 44) hx hb dX9_notes_17 (by decide) (fun hc35 => ?_) (fun hc35 => ?_)
      · have hf := if_t hf hc35
        refine lv_aload_n hx hb dX9_notes_44 rfl (lv_at hl 0 rfl) ?_
        refine va_get (D := G.1) (ci := 9) (v := .ref a_this_s) (C := RX9) (T := TX9) (N := 26) hx hb hts inX9 hown hK hP 0 rfl rfl 19 (by decide) lk22 (fun _ h9 => h9) rfl dX9_notes_45 ?_
        refine lv_bipush (v := (57 : Int32)) hx hb dX9_notes_48 (by decide) ?_
        refine lv_iconst (v := (5 : Int32)) hx hb dX9_notes_50 (by decide) ?_
        obtain ⟨hg36, hf⟩ := gd_some hf
        refine z_iast hx hb hK hP hD hS 1 0 rfl rfl (inB_in hg36) dX9_notes_51 (fun gg => [(a_this, .inr (9, [.int v_thrown, .long v_trace, .ref a_this_text, .int v_typed, .int v_next, .int v_token, .int v_place, .int v_value, .int v_fault, .int v_squares, .ref a_this_stars, .ref a_this_purses, .ref a_this_leases, .int v_starMany, .int v_tenants, .int v_draftSquares, .int v_draftStars, .int v_draftTenants, .int v_draftLeases, .ref a_this_s, .ref a_this_kept, .ref a_this_isKept, .ref a_this_offers, .int v_offerMany, .ref a_this_seen, .int v_seenMany])), (a_this_s, .inl (G.2.1, 100, .inl gg))]) (fun gg => rfl) (fun y37 H locs ey37 hP hD hS => ?_)
        have hf := nm_to hf ey37
        have hP : va_P G.1 vwCl [(a_this, .inr (9, [.int v_thrown, .long v_trace, .ref a_this_text, .int v_typed, .int v_next, .int v_token, .int v_place, .int v_value, .int v_fault, .int v_squares, .ref a_this_stars, .ref a_this_purses, .ref a_this_leases, .int v_starMany, .int v_tenants, .int v_draftSquares, .int v_draftStars, .int v_draftTenants, .int v_draftLeases, .ref a_this_s, .ref a_this_kept, .ref a_this_isKept, .ref a_this_offers, .int v_offerMany, .ref a_this_seen, .int v_seenMany])), (a_this_s, .inl (G.2.1, 100, .inl y37))] H := hP
        have hD : va_D A [(a_this, .inr (9, [.int v_thrown, .long v_trace, .ref a_this_text, .int v_typed, .int v_next, .int v_token, .int v_place, .int v_value, .int v_fault, .int v_squares, .ref a_this_stars, .ref a_this_purses, .ref a_this_leases, .int v_starMany, .int v_tenants, .int v_draftSquares, .int v_draftStars, .int v_draftTenants, .int v_draftLeases, .ref a_this_s, .ref a_this_kept, .ref a_this_isKept, .ref a_this_offers, .int v_offerMany, .ref a_this_seen, .int v_seenMany])), (a_this_s, .inl (G.2.1, 100, .inl y37))] := hD
        exact j52 (x1) (x2) (y37) ls (lv_sub hl [0, 1, 2] rfl) _ _ hP hD hS hf
      · have hf := if_f hf hc35
        refine lv_aload_n hx hb dX9_notes_20 rfl (lv_at hl 0 rfl) ?_
        refine va_get (D := G.1) (ci := 9) (v := .ref a_this_s) (C := RX9) (T := TX9) (N := 26) hx hb hts inX9 hown hK hP 0 rfl rfl 19 (by decide) lk22 (fun _ h9 => h9) rfl dX9_notes_21 ?_
        refine lv_bipush (v := (58 : Int32)) hx hb dX9_notes_24 (by decide) ?_
        refine lv_iload_n hx hb dX9_notes_26 rfl (lv_at hl 3 rfl) ?_
        refine lv_iadd hx hb dX9_notes_27 ?_
        refine lv_aload_n hx hb dX9_notes_28 rfl (lv_at hl 0 rfl) ?_
        refine va_get (D := G.1) (ci := 9) (v := .ref a_this_s) (C := RX9) (T := TX9) (N := 26) hx hb hts inX9 hown hK hP 0 rfl rfl 19 (by decide) lk22 (fun _ h9 => h9) rfl dX9_notes_29 ?_
        refine lv_bipush (v := (65 : Int32)) hx hb dX9_notes_32 (by decide) ?_
        refine lv_iload_n hx hb dX9_notes_34 rfl (lv_at hl 3 rfl) ?_
        refine lv_iadd hx hb dX9_notes_35 ?_
        obtain ⟨hg38, hf⟩ := gd_some hf
        refine va_iald hx hb hK hP 1 0 rfl rfl (inB_in hg38) dX9_notes_36 ?_
        obtain ⟨hg39, hf⟩ := gd_some hf
        refine z_iast hx hb hK hP hD hS 1 0 rfl rfl (inB_in hg39) dX9_notes_37 (fun gg => [(a_this, .inr (9, [.int v_thrown, .long v_trace, .ref a_this_text, .int v_typed, .int v_next, .int v_token, .int v_place, .int v_value, .int v_fault, .int v_squares, .ref a_this_stars, .ref a_this_purses, .ref a_this_leases, .int v_starMany, .int v_tenants, .int v_draftSquares, .int v_draftStars, .int v_draftTenants, .int v_draftLeases, .ref a_this_s, .ref a_this_kept, .ref a_this_isKept, .ref a_this_offers, .int v_offerMany, .ref a_this_seen, .int v_seenMany])), (a_this_s, .inl (G.2.1, 100, .inl gg))]) (fun gg => rfl) (fun y40 H locs ey40 hP hD hS => ?_)
        have hf := nm_to hf ey40
        have hP : va_P G.1 vwCl [(a_this, .inr (9, [.int v_thrown, .long v_trace, .ref a_this_text, .int v_typed, .int v_next, .int v_token, .int v_place, .int v_value, .int v_fault, .int v_squares, .ref a_this_stars, .ref a_this_purses, .ref a_this_leases, .int v_starMany, .int v_tenants, .int v_draftSquares, .int v_draftStars, .int v_draftTenants, .int v_draftLeases, .ref a_this_s, .ref a_this_kept, .ref a_this_isKept, .ref a_this_offers, .int v_offerMany, .ref a_this_seen, .int v_seenMany])), (a_this_s, .inl (G.2.1, 100, .inl y40))] H := hP
        have hD : va_D A [(a_this, .inr (9, [.int v_thrown, .long v_trace, .ref a_this_text, .int v_typed, .int v_next, .int v_token, .int v_place, .int v_value, .int v_fault, .int v_squares, .ref a_this_stars, .ref a_this_purses, .ref a_this_leases, .int v_starMany, .int v_tenants, .int v_draftSquares, .int v_draftStars, .int v_draftTenants, .int v_draftLeases, .ref a_this_s, .ref a_this_kept, .ref a_this_isKept, .ref a_this_offers, .int v_offerMany, .ref a_this_seen, .int v_seenMany])), (a_this_s, .inl (G.2.1, 100, .inl y40))] := hD
        refine lv_iinc (v := (x3 + (1 : Int32))) (lv' := [(3, .int (x3 + (1 : Int32))), (0, .ref a_this), (1, .int x1), (2, .int x2)]) hx hb dX9_notes_38 hl (k := 3) rfl rfl (by decide) rfl (fun ls hl => ?_)
        refine lv_goto (tgt := 14) hx hb dX9_notes_41 (by decide) ?_
        exact ih ((x3 + (1 : Int32))) (y40) ls (lv_sub hl [1, 2, 3, 0] rfl) _ _ hP hD hS hf
  have hSH := hS
  unfold f_X9_notes at hf
  refine lv_aload_n hx hb dX9_notes_0 rfl (lv_at hl 0 rfl) ?_
  refine va_get (D := G.1) (ci := 9) (v := .ref a_this_s) (C := RX9) (T := TX9) (N := 26) hx hb hts inX9 hown hK hP 0 rfl rfl 19 (by decide) lk22 (fun _ h9 => h9) rfl dX9_notes_1 ?_
  refine lv_bipush (v := (57 : Int32)) hx hb dX9_notes_4 (by decide) ?_
  obtain ⟨hg41, hf⟩ := gd_some hf
  refine va_iald hx hb hK hP 1 0 rfl rfl (inB_in hg41) dX9_notes_6 ?_
  refine lv_bipush (v := (6 : Int32)) hx hb dX9_notes_7 (by decide) ?_
  refine lv_icmp_ne (tgt := 52) hx hb dX9_notes_9 (by decide) (fun hc42 => ?_) (fun hc42 => ?_)
  · have hf := if_f hf hc42
    exact j52 (g1) (g2) (v_s) ls (lv_sub hl [0, 1, 2] rfl) _ _ hP hD hS hf
  · have hf := if_t hf hc42
    refine lv_iconst (v := (0 : Int32)) hx hb dX9_notes_12 (by decide) ?_
    refine lv_istore_n (lv' := [(3, .int (0 : Int32)), (0, .ref a_this), (1, .int g1), (2, .int g2)]) hx hb dX9_notes_13 rfl hl (by decide) rfl (fun ls hl => ?_)
    exact j14 (g1) (g2) zF ((0 : Int32)) (v_s) ls (lv_sub hl [1, 2, 3, 0] rfl) _ _ hP hD hS hf
theorem hd_X9_isLease : yX9_isLease.cls = RX9 ∧ yX9_isLease.cls ≠ "java/lang/invoke/MethodHandle" ∧ yX9_isLease.cls ≠ "java/lang/invoke/VarHandle" ∧ (parseMethodDescriptor yX9_isLease.desc).map (fun d => d.parameters.length) = some 5 := by decide +kernel
theorem hd_X9_notes : yX9_notes.cls = RX9 ∧ yX9_notes.cls ≠ "java/lang/invoke/MethodHandle" ∧ yX9_notes.cls ≠ "java/lang/invoke/VarHandle" ∧ (parseMethodDescriptor yX9_notes.desc).map (fun d => d.parameters.length) = some 2 := by decide +kernel
def f_X9_begins  (v_thrown : Int32) (v_squares : Int32) (v_tenants : Int32) (v_s : (Nat → Int32)) (g1 : Int32) (g2 : Int32) (g3 : Int32) (g4 : Int32) (g5 : Int32) : Option (Int32 × Int32 × (Nat → Int32)) := bd1 (f_X9_isLease (v_squares) (v_tenants) (g1) (g2) (g3) (g4) (g5)) fun r23 => if r23 = (0 : Int32) then (some ((-1 : Int32), (0 : Int32), v_s)) else (gd (inB (6 : Int32) 100) (if (v_s ((6 : Int32)).toNatClampNeg) = (10 : Int32) then (some ((-3 : Int32), (0 : Int32), v_s)) else (gd (inB (6 : Int32) 100) (nm (((7 : Int32) + ((5 : Int32) * (v_s ((6 : Int32)).toNatClampNeg)))) fun y28 => gd (inB y28 100) (nm (upd v_s (y28).toNatClampNeg g1) fun y30 => gd (inB (y28 + (1 : Int32)) 100) (nm (upd y30 ((y28 + (1 : Int32))).toNatClampNeg g2) fun y32 => gd (inB (y28 + (2 : Int32)) 100) (nm (upd y32 ((y28 + (2 : Int32))).toNatClampNeg g3) fun y34 => gd (inB (y28 + (3 : Int32)) 100) (nm (upd y34 ((y28 + (3 : Int32))).toNatClampNeg g4) fun y36 => gd (inB (y28 + (4 : Int32)) 100) (nm (upd y36 ((y28 + (4 : Int32))).toNatClampNeg g5) fun y38 => gd (inB (6 : Int32) 100) (bd1 (f_X9_notes (y38) ((1 : Int32)) ((y38 ((6 : Int32)).toNatClampNeg))) fun w40 => gd (inB (6 : Int32) 100) (gd (inB (6 : Int32) 100) (nm (upd w40 ((6 : Int32)).toNatClampNeg ((w40 ((6 : Int32)).toNatClampNeg) + (1 : Int32))) fun y43 => gd (inB (6 : Int32) 100) (some (((y43 ((6 : Int32)).toNatClampNeg) - (1 : Int32)), (0 : Int32), y43))))))))))))))
abbrev rm_X9_begins : Room := { frames := 3, cells := 0, slots := 0, locals := 68 }
set_option maxHeartbeats 4000000 in
set_option maxRecDepth 100000 in
theorem c_X9_begins (l : Launch) (G : zG) (sz : Nat) (a_this : Nat) (a_this_s : Nat) (a_this_text : Nat) (a_this_stars : Nat) (a_this_purses : Nat) (a_this_leases : Nat) (a_this_kept : Nat) (a_this_isKept : Nat) (a_this_offers : Nat) (a_this_seen : Nat) (v_thrown : Int32) (v_trace : Int64) (v_typed : Int32) (v_next : Int32) (v_token : Int32) (v_place : Int32) (v_value : Int32) (v_fault : Int32) (v_squares : Int32) (v_starMany : Int32) (v_tenants : Int32) (v_draftSquares : Int32) (v_draftStars : Int32) (v_draftTenants : Int32) (v_draftLeases : Int32) (v_offerMany : Int32) (v_seenMany : Int32) (v_s : (Nat → Int32)) (g1 : Int32) (g2 : Int32) (g3 : Int32) (g4 : Int32) (g5 : Int32) (R0 : Int32) (R1 : Int32) (R2 : (Nat → Int32)) (hf : f_X9_begins v_thrown v_squares v_tenants v_s g1 g2 g3 g4 g5 = some (R0, R1, R2)) : Met l yX9_begins wsX9_begins rm_X9_begins (va_Pc [.ref a_this, .int g1, .int g2, .int g3, .int g4, .int g5] (zB G [(a_this, .inr (9, [.int v_thrown, .long v_trace, .ref a_this_text, .int v_typed, .int v_next, .int v_token, .int v_place, .int v_value, .int v_fault, .int v_squares, .ref a_this_stars, .ref a_this_purses, .ref a_this_leases, .int v_starMany, .int v_tenants, .int v_draftSquares, .int v_draftStars, .int v_draftTenants, .int v_draftLeases, .ref a_this_s, .ref a_this_kept, .ref a_this_isKept, .ref a_this_offers, .int v_offerMany, .ref a_this_seen, .int v_seenMany])), (a_this_s, .inl (G.2.1, 100, .inl v_s))] sz)) (zQ G (some (.int R0)) [(a_this, .inr (9, [.int R1, .long v_trace, .ref a_this_text, .int v_typed, .int v_next, .int v_token, .int v_place, .int v_value, .int v_fault, .int v_squares, .ref a_this_stars, .ref a_this_purses, .ref a_this_leases, .int v_starMany, .int v_tenants, .int v_draftSquares, .int v_draftStars, .int v_draftTenants, .int v_draftLeases, .ref a_this_s, .ref a_this_kept, .ref a_this_isKept, .ref a_this_offers, .int v_offerMany, .ref a_this_seen, .int v_seenMany])), (a_this_s, .inl (G.2.1, 100, .inl R2))] (va_A [(a_this, .inr (9, [.int v_thrown, .long v_trace, .ref a_this_text, .int v_typed, .int v_next, .int v_token, .int v_place, .int v_value, .int v_fault, .int v_squares, .ref a_this_stars, .ref a_this_purses, .ref a_this_leases, .int v_starMany, .int v_tenants, .int v_draftSquares, .int v_draftStars, .int v_draftTenants, .int v_draftLeases, .ref a_this_s, .ref a_this_kept, .ref a_this_isKept, .ref a_this_offers, .int v_offerMany, .ref a_this_seen, .int v_seenMany])), (a_this_s, .inl (G.2.1, 100, .inl v_s))] sz)) 0 0 (va_A [(a_this, .inr (9, [.int v_thrown, .long v_trace, .ref a_this_text, .int v_typed, .int v_next, .int v_token, .int v_place, .int v_value, .int v_fault, .int v_squares, .ref a_this_stars, .ref a_this_purses, .ref a_this_leases, .int v_starMany, .int v_tenants, .int v_draftSquares, .int v_draftStars, .int v_draftTenants, .int v_draftLeases, .ref a_this_s, .ref a_this_kept, .ref a_this_isKept, .ref a_this_offers, .int v_offerMany, .ref a_this_seen, .int v_seenMany])), (a_this_s, .inl (G.2.1, 100, .inl v_s))] sz) := by
  refine Met.ofW (cc := cX9_begins) (maxL := 7) (ret := (some .int)) (by decide) rfl ?_
  intro p e s m args below meth c s₁ B hml hv
  obtain ⟨hargs, hsz, hP, hD0, hE⟩ := hv
  have hx := B.exec
  have hb := B.bytes
  have hr := B.returns
  have hts := atoms_spec (ws := wsX9_begins) B.pre
  have hown : s.vm.findClass RX9 = some m.cls := findClass_of_methodNamed B.named
  have hlocks := B.notSynchronized
  have hK := hE.1
  have hC : CallFix p m c cX9_begins 7 s args wsX9_begins RX9 := ⟨hx, hb, hml, hown, hts⟩
  have inX9 : ∀ w ∈ wsX90, w ∈ wsX9_begins := by decide +kernel
  have lk22 := hts (.fieldLink RX9 22 "SkyLeasesModel" "s" "[I") (by decide +kernel)
  have lk42 := hts (.fieldLink RX9 42 "SkyLeasesModel" "thrown" "I") (by decide +kernel)
  subst hsz
  have hD := hD0.self (sz := s.heap.size)
  generalize hAe : va_A [(a_this, .inr (9, [.int v_thrown, .long v_trace, .ref a_this_text, .int v_typed, .int v_next, .int v_token, .int v_place, .int v_value, .int v_fault, .int v_squares, .ref a_this_stars, .ref a_this_purses, .ref a_this_leases, .int v_starMany, .int v_tenants, .int v_draftSquares, .int v_draftStars, .int v_draftTenants, .int v_draftLeases, .ref a_this_s, .ref a_this_kept, .ref a_this_isKept, .ref a_this_offers, .int v_offerMany, .ref a_this_seen, .int v_seenMany])), (a_this_s, .inl (G.2.1, 100, .inl v_s))] s.heap.size = A at hD ⊢
  have hA : ∀ q : Nat, s.heap.size ≤ q → A q := fun q h => by rw [← hAe]; exact Or.inr h
  have hS : va_S A s.heap s.heap [] := va_S.rf
  have hP : va_P G.1 vwCl [(a_this, .inr (9, [.int v_thrown, .long v_trace, .ref a_this_text, .int v_typed, .int v_next, .int v_token, .int v_place, .int v_value, .int v_fault, .int v_squares, .ref a_this_stars, .ref a_this_purses, .ref a_this_leases, .int v_starMany, .int v_tenants, .int v_draftSquares, .int v_draftStars, .int v_draftTenants, .int v_draftLeases, .ref a_this_s, .ref a_this_kept, .ref a_this_isKept, .ref a_this_offers, .int v_offerMany, .ref a_this_seen, .int v_seenMany])), (a_this_s, .inl (G.2.1, 100, .inl v_s))] s.heap := hP
  have hl := lv_entry ([.ref a_this, .int g1, .int g2, .int g3, .int g4, .int g5]) (n := 7) (Nat.le_of_ble_eq_true rfl)
  have hent : entryFrame m args 7 = F0 m 0 ((lg_sl ([.ref a_this, .int g1, .int g2, .int g3, .int g4, .int g5]) ++ List.replicate (7 - (lg_sl ([.ref a_this, .int g1, .int g2, .int g3, .int g4, .int g5])).length) Slot.unset).toArray) [] := by rw [hargs]; exact lg_entry_eq m [.ref a_this, .int g1, .int g2, .int g3, .int g4, .int g5] 7
  refine W.eq hent ?_
  clear hent
  generalize (lg_sl ([.ref a_this, .int g1, .int g2, .int g3, .int g4, .int g5]) ++ List.replicate (7 - (lg_sl ([.ref a_this, .int g1, .int g2, .int g3, .int g4, .int g5])).length) Slot.unset).toArray = ls at hl ⊢
  have hl : lv_has ls 7 [(0, .ref a_this), (1, .int g1), (2, .int g2), (3, .int g3), (4, .int g4), (5, .int g5)] := hl
  generalize hQ : MQ below _ args s 0 0 _ = QQ
  change W p l e rm_X9_begins s m args below meth c s.heap [] 0 0 QQ _
  have hSH := hS
  unfold f_X9_begins at hf
  refine lv_aload_n hx hb dX9_begins_0 rfl (lv_at hl 0 rfl) ?_
  refine lv_iconst (v := (0 : Int32)) hx hb dX9_begins_1 (by decide) ?_
  refine va_put (D := G.1) (ci := 9) (v := .int (0 : Int32)) (ty := .int) (C := RX9) (T := TX9) (N := 26) hx hb hts inX9 tyX9 tyX9_ok nmX9 hown hK hP hD hS 0 rfl rfl 0 (by decide) lk42 (fun _ h9 => h9) rfl (by decide +kernel) rfl rfl (Nat.le_of_ble_eq_true rfl) dX9_begins_2 (fun H locs hP hD hS => ?_)
  have hP : va_P G.1 vwCl [(a_this, .inr (9, [.int (0 : Int32), .long v_trace, .ref a_this_text, .int v_typed, .int v_next, .int v_token, .int v_place, .int v_value, .int v_fault, .int v_squares, .ref a_this_stars, .ref a_this_purses, .ref a_this_leases, .int v_starMany, .int v_tenants, .int v_draftSquares, .int v_draftStars, .int v_draftTenants, .int v_draftLeases, .ref a_this_s, .ref a_this_kept, .ref a_this_isKept, .ref a_this_offers, .int v_offerMany, .ref a_this_seen, .int v_seenMany])), (a_this_s, .inl (G.2.1, 100, .inl v_s))] H := hP
  have hD : va_D A [(a_this, .inr (9, [.int (0 : Int32), .long v_trace, .ref a_this_text, .int v_typed, .int v_next, .int v_token, .int v_place, .int v_value, .int v_fault, .int v_squares, .ref a_this_stars, .ref a_this_purses, .ref a_this_leases, .int v_starMany, .int v_tenants, .int v_draftSquares, .int v_draftStars, .int v_draftTenants, .int v_draftLeases, .ref a_this_s, .ref a_this_kept, .ref a_this_isKept, .ref a_this_offers, .int v_offerMany, .ref a_this_seen, .int v_seenMany])), (a_this_s, .inl (G.2.1, 100, .inl v_s))] := hD
  refine lv_aload_n hx hb dX9_begins_5 rfl (lv_at hl 0 rfl) ?_
  refine lv_iload_n hx hb dX9_begins_6 rfl (lv_at hl 1 rfl) ?_
  refine lv_iload_n hx hb dX9_begins_7 rfl (lv_at hl 2 rfl) ?_
  refine lv_iload_n hx hb dX9_begins_8 rfl (lv_at hl 3 rfl) ?_
  refine lv_iload hx hb dX9_begins_9 (lv_at hl 4 rfl) ?_
  refine lv_iload hx hb dX9_begins_11 (lv_at hl 5 rfl) ?_
  obtain ⟨r23, hu, hf⟩ := bd1_some hf
  refine zRi (va_runV (As := [.int g1, .int g2, .int g3, .int g4, .int g5]) (rest := []) hC (c_X9_isLease l G a_this a_this_text a_this_stars a_this_purses a_this_leases a_this_s a_this_kept a_this_isKept a_this_offers a_this_seen ((0 : Int32)) (v_trace) (v_typed) (v_next) (v_token) (v_place) (v_value) (v_fault) (v_squares) (v_starMany) (v_tenants) (v_draftSquares) (v_draftStars) (v_draftTenants) (v_draftLeases) (v_offerMany) (v_seenMany) (g1) (g2) (g3) (g4) (g5) r23 hu) (cwV 5 hts gX9_begins_X9_isLease rfl rfl rfl hd_X9_isLease ⟨(Nat.le_of_ble_eq_true rfl), (Nat.le_of_ble_eq_true rfl)⟩) (zPV hE hP [0] rfl 0 rfl rfl) rfl rfl hl.1 rfl (lv_room (Nat.le_of_ble_eq_true rfl)) dX9_begins_13 ⟨Nat.zero_le _, Nat.zero_le _⟩) ?_
  refine lv_if_ne (tgt := 21) hx hb dX9_begins_16 (by decide) (fun hc24 => ?_) (fun hc24 => ?_)
  · have hf := if_f hf hc24
    refine lv_aload_n hx hb dX9_begins_21 rfl (lv_at hl 0 rfl) ?_
    refine va_get (D := G.1) (ci := 9) (v := .ref a_this_s) (C := RX9) (T := TX9) (N := 26) hx hb hts inX9 hown hK hP 0 rfl rfl 19 (by decide) lk22 (fun _ h9 => h9) rfl dX9_begins_22 ?_
    refine lv_bipush (v := (6 : Int32)) hx hb dX9_begins_25 (by decide) ?_
    obtain ⟨hg25, hf⟩ := gd_some hf
    refine va_iald hx hb hK hP 1 0 rfl rfl (inB_in hg25) dX9_begins_27 ?_
    refine lv_bipush (v := (10 : Int32)) hx hb dX9_begins_28 (by decide) ?_
    refine lv_icmp_ne (tgt := 36) hx hb dX9_begins_30 (by decide) (fun hc26 => ?_) (fun hc26 => ?_)
    · have hf := if_f hf hc26
      refine lv_bipush (v := (7 : Int32)) hx hb dX9_begins_36 (by decide) ?_
      refine lv_iconst (v := (5 : Int32)) hx hb dX9_begins_38 (by decide) ?_
      refine lv_aload_n hx hb dX9_begins_39 rfl (lv_at hl 0 rfl) ?_
      refine va_get (D := G.1) (ci := 9) (v := .ref a_this_s) (C := RX9) (T := TX9) (N := 26) hx hb hts inX9 hown hK hP 0 rfl rfl 19 (by decide) lk22 (fun _ h9 => h9) rfl dX9_begins_40 ?_
      refine lv_bipush (v := (6 : Int32)) hx hb dX9_begins_43 (by decide) ?_
      obtain ⟨hg27, hf⟩ := gd_some hf
      refine va_iald hx hb hK hP 1 0 rfl rfl (inB_in hg27) dX9_begins_45 ?_
      refine lv_imul hx hb dX9_begins_46 ?_
      refine lv_iadd hx hb dX9_begins_47 ?_
      refine lv_topi (fun y28 ey28 => ?_)
      have hf := nm_to hf ey28
      refine lv_istore (lv' := [(6, .int y28), (0, .ref a_this), (1, .int g1), (2, .int g2), (3, .int g3), (4, .int g4), (5, .int g5)]) hx hb dX9_begins_48 hl (by decide) rfl (fun ls hl => ?_)
      refine lv_aload_n hx hb dX9_begins_50 rfl (lv_at hl 1 rfl) ?_
      refine va_get (D := G.1) (ci := 9) (v := .ref a_this_s) (C := RX9) (T := TX9) (N := 26) hx hb hts inX9 hown hK hP 0 rfl rfl 19 (by decide) lk22 (fun _ h9 => h9) rfl dX9_begins_51 ?_
      refine lv_iload hx hb dX9_begins_54 (lv_at hl 0 rfl) ?_
      refine lv_iload_n hx hb dX9_begins_56 rfl (lv_at hl 2 rfl) ?_
      obtain ⟨hg29, hf⟩ := gd_some hf
      refine z_iast hx hb hK hP hD hS 1 0 rfl rfl (inB_in hg29) dX9_begins_57 (fun gg => [(a_this, .inr (9, [.int (0 : Int32), .long v_trace, .ref a_this_text, .int v_typed, .int v_next, .int v_token, .int v_place, .int v_value, .int v_fault, .int v_squares, .ref a_this_stars, .ref a_this_purses, .ref a_this_leases, .int v_starMany, .int v_tenants, .int v_draftSquares, .int v_draftStars, .int v_draftTenants, .int v_draftLeases, .ref a_this_s, .ref a_this_kept, .ref a_this_isKept, .ref a_this_offers, .int v_offerMany, .ref a_this_seen, .int v_seenMany])), (a_this_s, .inl (G.2.1, 100, .inl gg))]) (fun gg => rfl) (fun y30 H locs ey30 hP hD hS => ?_)
      have hf := nm_to hf ey30
      have hP : va_P G.1 vwCl [(a_this, .inr (9, [.int (0 : Int32), .long v_trace, .ref a_this_text, .int v_typed, .int v_next, .int v_token, .int v_place, .int v_value, .int v_fault, .int v_squares, .ref a_this_stars, .ref a_this_purses, .ref a_this_leases, .int v_starMany, .int v_tenants, .int v_draftSquares, .int v_draftStars, .int v_draftTenants, .int v_draftLeases, .ref a_this_s, .ref a_this_kept, .ref a_this_isKept, .ref a_this_offers, .int v_offerMany, .ref a_this_seen, .int v_seenMany])), (a_this_s, .inl (G.2.1, 100, .inl y30))] H := hP
      have hD : va_D A [(a_this, .inr (9, [.int (0 : Int32), .long v_trace, .ref a_this_text, .int v_typed, .int v_next, .int v_token, .int v_place, .int v_value, .int v_fault, .int v_squares, .ref a_this_stars, .ref a_this_purses, .ref a_this_leases, .int v_starMany, .int v_tenants, .int v_draftSquares, .int v_draftStars, .int v_draftTenants, .int v_draftLeases, .ref a_this_s, .ref a_this_kept, .ref a_this_isKept, .ref a_this_offers, .int v_offerMany, .ref a_this_seen, .int v_seenMany])), (a_this_s, .inl (G.2.1, 100, .inl y30))] := hD
      refine lv_aload_n hx hb dX9_begins_58 rfl (lv_at hl 1 rfl) ?_
      refine va_get (D := G.1) (ci := 9) (v := .ref a_this_s) (C := RX9) (T := TX9) (N := 26) hx hb hts inX9 hown hK hP 0 rfl rfl 19 (by decide) lk22 (fun _ h9 => h9) rfl dX9_begins_59 ?_
      refine lv_iload hx hb dX9_begins_62 (lv_at hl 0 rfl) ?_
      refine lv_iconst (v := (1 : Int32)) hx hb dX9_begins_64 (by decide) ?_
      refine lv_iadd hx hb dX9_begins_65 ?_
      refine lv_iload_n hx hb dX9_begins_66 rfl (lv_at hl 3 rfl) ?_
      obtain ⟨hg31, hf⟩ := gd_some hf
      refine z_iast hx hb hK hP hD hS 1 0 rfl rfl (inB_in hg31) dX9_begins_67 (fun gg => [(a_this, .inr (9, [.int (0 : Int32), .long v_trace, .ref a_this_text, .int v_typed, .int v_next, .int v_token, .int v_place, .int v_value, .int v_fault, .int v_squares, .ref a_this_stars, .ref a_this_purses, .ref a_this_leases, .int v_starMany, .int v_tenants, .int v_draftSquares, .int v_draftStars, .int v_draftTenants, .int v_draftLeases, .ref a_this_s, .ref a_this_kept, .ref a_this_isKept, .ref a_this_offers, .int v_offerMany, .ref a_this_seen, .int v_seenMany])), (a_this_s, .inl (G.2.1, 100, .inl gg))]) (fun gg => rfl) (fun y32 H locs ey32 hP hD hS => ?_)
      have hf := nm_to hf ey32
      have hP : va_P G.1 vwCl [(a_this, .inr (9, [.int (0 : Int32), .long v_trace, .ref a_this_text, .int v_typed, .int v_next, .int v_token, .int v_place, .int v_value, .int v_fault, .int v_squares, .ref a_this_stars, .ref a_this_purses, .ref a_this_leases, .int v_starMany, .int v_tenants, .int v_draftSquares, .int v_draftStars, .int v_draftTenants, .int v_draftLeases, .ref a_this_s, .ref a_this_kept, .ref a_this_isKept, .ref a_this_offers, .int v_offerMany, .ref a_this_seen, .int v_seenMany])), (a_this_s, .inl (G.2.1, 100, .inl y32))] H := hP
      have hD : va_D A [(a_this, .inr (9, [.int (0 : Int32), .long v_trace, .ref a_this_text, .int v_typed, .int v_next, .int v_token, .int v_place, .int v_value, .int v_fault, .int v_squares, .ref a_this_stars, .ref a_this_purses, .ref a_this_leases, .int v_starMany, .int v_tenants, .int v_draftSquares, .int v_draftStars, .int v_draftTenants, .int v_draftLeases, .ref a_this_s, .ref a_this_kept, .ref a_this_isKept, .ref a_this_offers, .int v_offerMany, .ref a_this_seen, .int v_seenMany])), (a_this_s, .inl (G.2.1, 100, .inl y32))] := hD
      refine lv_aload_n hx hb dX9_begins_68 rfl (lv_at hl 1 rfl) ?_
      refine va_get (D := G.1) (ci := 9) (v := .ref a_this_s) (C := RX9) (T := TX9) (N := 26) hx hb hts inX9 hown hK hP 0 rfl rfl 19 (by decide) lk22 (fun _ h9 => h9) rfl dX9_begins_69 ?_
      refine lv_iload hx hb dX9_begins_72 (lv_at hl 0 rfl) ?_
      refine lv_iconst (v := (2 : Int32)) hx hb dX9_begins_74 (by decide) ?_
      refine lv_iadd hx hb dX9_begins_75 ?_
      refine lv_iload_n hx hb dX9_begins_76 rfl (lv_at hl 4 rfl) ?_
      obtain ⟨hg33, hf⟩ := gd_some hf
      refine z_iast hx hb hK hP hD hS 1 0 rfl rfl (inB_in hg33) dX9_begins_77 (fun gg => [(a_this, .inr (9, [.int (0 : Int32), .long v_trace, .ref a_this_text, .int v_typed, .int v_next, .int v_token, .int v_place, .int v_value, .int v_fault, .int v_squares, .ref a_this_stars, .ref a_this_purses, .ref a_this_leases, .int v_starMany, .int v_tenants, .int v_draftSquares, .int v_draftStars, .int v_draftTenants, .int v_draftLeases, .ref a_this_s, .ref a_this_kept, .ref a_this_isKept, .ref a_this_offers, .int v_offerMany, .ref a_this_seen, .int v_seenMany])), (a_this_s, .inl (G.2.1, 100, .inl gg))]) (fun gg => rfl) (fun y34 H locs ey34 hP hD hS => ?_)
      have hf := nm_to hf ey34
      have hP : va_P G.1 vwCl [(a_this, .inr (9, [.int (0 : Int32), .long v_trace, .ref a_this_text, .int v_typed, .int v_next, .int v_token, .int v_place, .int v_value, .int v_fault, .int v_squares, .ref a_this_stars, .ref a_this_purses, .ref a_this_leases, .int v_starMany, .int v_tenants, .int v_draftSquares, .int v_draftStars, .int v_draftTenants, .int v_draftLeases, .ref a_this_s, .ref a_this_kept, .ref a_this_isKept, .ref a_this_offers, .int v_offerMany, .ref a_this_seen, .int v_seenMany])), (a_this_s, .inl (G.2.1, 100, .inl y34))] H := hP
      have hD : va_D A [(a_this, .inr (9, [.int (0 : Int32), .long v_trace, .ref a_this_text, .int v_typed, .int v_next, .int v_token, .int v_place, .int v_value, .int v_fault, .int v_squares, .ref a_this_stars, .ref a_this_purses, .ref a_this_leases, .int v_starMany, .int v_tenants, .int v_draftSquares, .int v_draftStars, .int v_draftTenants, .int v_draftLeases, .ref a_this_s, .ref a_this_kept, .ref a_this_isKept, .ref a_this_offers, .int v_offerMany, .ref a_this_seen, .int v_seenMany])), (a_this_s, .inl (G.2.1, 100, .inl y34))] := hD
      refine lv_aload_n hx hb dX9_begins_78 rfl (lv_at hl 1 rfl) ?_
      refine va_get (D := G.1) (ci := 9) (v := .ref a_this_s) (C := RX9) (T := TX9) (N := 26) hx hb hts inX9 hown hK hP 0 rfl rfl 19 (by decide) lk22 (fun _ h9 => h9) rfl dX9_begins_79 ?_
      refine lv_iload hx hb dX9_begins_82 (lv_at hl 0 rfl) ?_
      refine lv_iconst (v := (3 : Int32)) hx hb dX9_begins_84 (by decide) ?_
      refine lv_iadd hx hb dX9_begins_85 ?_
      refine lv_iload hx hb dX9_begins_86 (lv_at hl 5 rfl) ?_
      obtain ⟨hg35, hf⟩ := gd_some hf
      refine z_iast hx hb hK hP hD hS 1 0 rfl rfl (inB_in hg35) dX9_begins_88 (fun gg => [(a_this, .inr (9, [.int (0 : Int32), .long v_trace, .ref a_this_text, .int v_typed, .int v_next, .int v_token, .int v_place, .int v_value, .int v_fault, .int v_squares, .ref a_this_stars, .ref a_this_purses, .ref a_this_leases, .int v_starMany, .int v_tenants, .int v_draftSquares, .int v_draftStars, .int v_draftTenants, .int v_draftLeases, .ref a_this_s, .ref a_this_kept, .ref a_this_isKept, .ref a_this_offers, .int v_offerMany, .ref a_this_seen, .int v_seenMany])), (a_this_s, .inl (G.2.1, 100, .inl gg))]) (fun gg => rfl) (fun y36 H locs ey36 hP hD hS => ?_)
      have hf := nm_to hf ey36
      have hP : va_P G.1 vwCl [(a_this, .inr (9, [.int (0 : Int32), .long v_trace, .ref a_this_text, .int v_typed, .int v_next, .int v_token, .int v_place, .int v_value, .int v_fault, .int v_squares, .ref a_this_stars, .ref a_this_purses, .ref a_this_leases, .int v_starMany, .int v_tenants, .int v_draftSquares, .int v_draftStars, .int v_draftTenants, .int v_draftLeases, .ref a_this_s, .ref a_this_kept, .ref a_this_isKept, .ref a_this_offers, .int v_offerMany, .ref a_this_seen, .int v_seenMany])), (a_this_s, .inl (G.2.1, 100, .inl y36))] H := hP
      have hD : va_D A [(a_this, .inr (9, [.int (0 : Int32), .long v_trace, .ref a_this_text, .int v_typed, .int v_next, .int v_token, .int v_place, .int v_value, .int v_fault, .int v_squares, .ref a_this_stars, .ref a_this_purses, .ref a_this_leases, .int v_starMany, .int v_tenants, .int v_draftSquares, .int v_draftStars, .int v_draftTenants, .int v_draftLeases, .ref a_this_s, .ref a_this_kept, .ref a_this_isKept, .ref a_this_offers, .int v_offerMany, .ref a_this_seen, .int v_seenMany])), (a_this_s, .inl (G.2.1, 100, .inl y36))] := hD
      refine lv_aload_n hx hb dX9_begins_89 rfl (lv_at hl 1 rfl) ?_
      refine va_get (D := G.1) (ci := 9) (v := .ref a_this_s) (C := RX9) (T := TX9) (N := 26) hx hb hts inX9 hown hK hP 0 rfl rfl 19 (by decide) lk22 (fun _ h9 => h9) rfl dX9_begins_90 ?_
      refine lv_iload hx hb dX9_begins_93 (lv_at hl 0 rfl) ?_
      refine lv_iconst (v := (4 : Int32)) hx hb dX9_begins_95 (by decide) ?_
      refine lv_iadd hx hb dX9_begins_96 ?_
      refine lv_iload hx hb dX9_begins_97 (lv_at hl 6 rfl) ?_
      obtain ⟨hg37, hf⟩ := gd_some hf
      refine z_iast hx hb hK hP hD hS 1 0 rfl rfl (inB_in hg37) dX9_begins_99 (fun gg => [(a_this, .inr (9, [.int (0 : Int32), .long v_trace, .ref a_this_text, .int v_typed, .int v_next, .int v_token, .int v_place, .int v_value, .int v_fault, .int v_squares, .ref a_this_stars, .ref a_this_purses, .ref a_this_leases, .int v_starMany, .int v_tenants, .int v_draftSquares, .int v_draftStars, .int v_draftTenants, .int v_draftLeases, .ref a_this_s, .ref a_this_kept, .ref a_this_isKept, .ref a_this_offers, .int v_offerMany, .ref a_this_seen, .int v_seenMany])), (a_this_s, .inl (G.2.1, 100, .inl gg))]) (fun gg => rfl) (fun y38 H locs ey38 hP hD hS => ?_)
      have hf := nm_to hf ey38
      have hP : va_P G.1 vwCl [(a_this, .inr (9, [.int (0 : Int32), .long v_trace, .ref a_this_text, .int v_typed, .int v_next, .int v_token, .int v_place, .int v_value, .int v_fault, .int v_squares, .ref a_this_stars, .ref a_this_purses, .ref a_this_leases, .int v_starMany, .int v_tenants, .int v_draftSquares, .int v_draftStars, .int v_draftTenants, .int v_draftLeases, .ref a_this_s, .ref a_this_kept, .ref a_this_isKept, .ref a_this_offers, .int v_offerMany, .ref a_this_seen, .int v_seenMany])), (a_this_s, .inl (G.2.1, 100, .inl y38))] H := hP
      have hD : va_D A [(a_this, .inr (9, [.int (0 : Int32), .long v_trace, .ref a_this_text, .int v_typed, .int v_next, .int v_token, .int v_place, .int v_value, .int v_fault, .int v_squares, .ref a_this_stars, .ref a_this_purses, .ref a_this_leases, .int v_starMany, .int v_tenants, .int v_draftSquares, .int v_draftStars, .int v_draftTenants, .int v_draftLeases, .ref a_this_s, .ref a_this_kept, .ref a_this_isKept, .ref a_this_offers, .int v_offerMany, .ref a_this_seen, .int v_seenMany])), (a_this_s, .inl (G.2.1, 100, .inl y38))] := hD
      refine lv_aload_n hx hb dX9_begins_100 rfl (lv_at hl 1 rfl) ?_
      refine lv_iconst (v := (1 : Int32)) hx hb dX9_begins_101 (by decide) ?_
      refine lv_aload_n hx hb dX9_begins_102 rfl (lv_at hl 1 rfl) ?_
      refine va_get (D := G.1) (ci := 9) (v := .ref a_this_s) (C := RX9) (T := TX9) (N := 26) hx hb hts inX9 hown hK hP 0 rfl rfl 19 (by decide) lk22 (fun _ h9 => h9) rfl dX9_begins_103 ?_
      refine lv_bipush (v := (6 : Int32)) hx hb dX9_begins_106 (by decide) ?_
      obtain ⟨hg39, hf⟩ := gd_some hf
      refine va_iald hx hb hK hP 1 0 rfl rfl (inB_in hg39) dX9_begins_108 ?_
      obtain ⟨w40, hu, hf⟩ := bd1_some hf
      refine zWn (wr := []) (ws2 := [(a_this, .inr (9, [.int (0 : Int32), .long v_trace, .ref a_this_text, .int v_typed, .int v_next, .int v_token, .int v_place, .int v_value, .int v_fault, .int v_squares, .ref a_this_stars, .ref a_this_purses, .ref a_this_leases, .int v_starMany, .int v_tenants, .int v_draftSquares, .int v_draftStars, .int v_draftTenants, .int v_draftLeases, .ref a_this_s, .ref a_this_kept, .ref a_this_isKept, .ref a_this_offers, .int v_offerMany, .ref a_this_seen, .int v_seenMany])), (a_this_s, .inl (G.2.1, 100, .inl w40))]) (va_runV (As := [.int (1 : Int32), .int (y38 ((6 : Int32)).toNatClampNeg)]) (rest := []) hC (c_X9_notes l G _ a_this a_this_s a_this_text a_this_stars a_this_purses a_this_leases a_this_kept a_this_isKept a_this_offers a_this_seen ((0 : Int32)) (v_trace) (v_typed) (v_next) (v_token) (v_place) (v_value) (v_fault) (v_squares) (v_starMany) (v_tenants) (v_draftSquares) (v_draftStars) (v_draftTenants) (v_draftLeases) (v_offerMany) (v_seenMany) (y38) ((1 : Int32)) ((y38 ((6 : Int32)).toNatClampNeg)) w40 hu) (cwV 2 hts gX9_begins_X9_notes rfl rfl rfl hd_X9_notes ⟨(Nat.le_of_ble_eq_true rfl), (Nat.le_of_ble_eq_true rfl)⟩) (zPVw hE hP hD [0, 1] rfl rfl 0 rfl rfl) rfl rfl hl.1 rfl (lv_room (Nat.le_of_ble_eq_true rfl)) dX9_begins_109 ⟨Nat.zero_le _, Nat.zero_le _⟩) hP hD hS hA [0, 1] [] [0, 1] rfl rfl rfl rfl (by decide) rfl rfl rfl (fun H locs hP hD hS => ?_)
      refine lv_aload_n hx hb dX9_begins_112 rfl (lv_at hl 1 rfl) ?_
      refine va_get (D := G.1) (ci := 9) (v := .ref a_this_s) (C := RX9) (T := TX9) (N := 26) hx hb hts inX9 hown hK hP 0 rfl rfl 19 (by decide) lk22 (fun _ h9 => h9) rfl dX9_begins_113 ?_
      refine lv_bipush (v := (6 : Int32)) hx hb dX9_begins_116 (by decide) ?_
      refine lv_dup2_11 hx hb dX9_begins_118 rfl rfl ?_
      obtain ⟨hg41, hf⟩ := gd_some hf
      refine va_iald hx hb hK hP 1 0 rfl rfl (inB_in hg41) dX9_begins_119 ?_
      refine lv_iconst (v := (1 : Int32)) hx hb dX9_begins_120 (by decide) ?_
      refine lv_iadd hx hb dX9_begins_121 ?_
      obtain ⟨hg42, hf⟩ := gd_some hf
      refine z_iast hx hb hK hP hD hS 1 0 rfl rfl (inB_in hg42) dX9_begins_122 (fun gg => [(a_this, .inr (9, [.int (0 : Int32), .long v_trace, .ref a_this_text, .int v_typed, .int v_next, .int v_token, .int v_place, .int v_value, .int v_fault, .int v_squares, .ref a_this_stars, .ref a_this_purses, .ref a_this_leases, .int v_starMany, .int v_tenants, .int v_draftSquares, .int v_draftStars, .int v_draftTenants, .int v_draftLeases, .ref a_this_s, .ref a_this_kept, .ref a_this_isKept, .ref a_this_offers, .int v_offerMany, .ref a_this_seen, .int v_seenMany])), (a_this_s, .inl (G.2.1, 100, .inl gg))]) (fun gg => rfl) (fun y43 H locs ey43 hP hD hS => ?_)
      have hf := nm_to hf ey43
      have hP : va_P G.1 vwCl [(a_this, .inr (9, [.int (0 : Int32), .long v_trace, .ref a_this_text, .int v_typed, .int v_next, .int v_token, .int v_place, .int v_value, .int v_fault, .int v_squares, .ref a_this_stars, .ref a_this_purses, .ref a_this_leases, .int v_starMany, .int v_tenants, .int v_draftSquares, .int v_draftStars, .int v_draftTenants, .int v_draftLeases, .ref a_this_s, .ref a_this_kept, .ref a_this_isKept, .ref a_this_offers, .int v_offerMany, .ref a_this_seen, .int v_seenMany])), (a_this_s, .inl (G.2.1, 100, .inl y43))] H := hP
      have hD : va_D A [(a_this, .inr (9, [.int (0 : Int32), .long v_trace, .ref a_this_text, .int v_typed, .int v_next, .int v_token, .int v_place, .int v_value, .int v_fault, .int v_squares, .ref a_this_stars, .ref a_this_purses, .ref a_this_leases, .int v_starMany, .int v_tenants, .int v_draftSquares, .int v_draftStars, .int v_draftTenants, .int v_draftLeases, .ref a_this_s, .ref a_this_kept, .ref a_this_isKept, .ref a_this_offers, .int v_offerMany, .ref a_this_seen, .int v_seenMany])), (a_this_s, .inl (G.2.1, 100, .inl y43))] := hD
      refine lv_aload_n hx hb dX9_begins_123 rfl (lv_at hl 1 rfl) ?_
      refine va_get (D := G.1) (ci := 9) (v := .ref a_this_s) (C := RX9) (T := TX9) (N := 26) hx hb hts inX9 hown hK hP 0 rfl rfl 19 (by decide) lk22 (fun _ h9 => h9) rfl dX9_begins_124 ?_
      refine lv_bipush (v := (6 : Int32)) hx hb dX9_begins_127 (by decide) ?_
      obtain ⟨hg44, hf⟩ := gd_some hf
      refine va_iald hx hb hK hP 1 0 rfl rfl (inB_in hg44) dX9_begins_129 ?_
      refine lv_iconst (v := (1 : Int32)) hx hb dX9_begins_130 (by decide) ?_
      refine lv_isub hx hb dX9_begins_131 ?_
      obtain ⟨hr0, hr1, hr2⟩ := so3 hf
      subst hr0
      subst hr1
      subst hr2
      rw [← hQ]
      exact W.iret (v := ((y43 ((6 : Int32)).toNatClampNeg) - (1 : Int32))) hx hb hr (fun t ht hW => ⟨⟨rfl, by rw [ht]; exact hP⟩, hS.F ht⟩) hS.2.2 dX9_begins_132
    · have hf := if_t hf hc26
      refine lv_bipush (v := (-3 : Int32)) hx hb dX9_begins_33 (by decide) ?_
      obtain ⟨hr0, hr1, hr2⟩ := so3 hf
      subst hr0
      subst hr1
      subst hr2
      rw [← hQ]
      exact W.iret (v := (-3 : Int32)) hx hb hr (fun t ht hW => ⟨⟨rfl, by rw [ht]; exact hP⟩, hS.F ht⟩) hS.2.2 dX9_begins_35
  · have hf := if_t hf hc24
    refine lv_iconst (v := (-1 : Int32)) hx hb dX9_begins_19 (by decide) ?_
    obtain ⟨hr0, hr1, hr2⟩ := so3 hf
    subst hr0
    subst hr1
    subst hr2
    rw [← hQ]
    exact W.iret (v := (-1 : Int32)) hx hb hr (fun t ht hW => ⟨⟨rfl, by rw [ht]; exact hP⟩, hS.F ht⟩) hS.2.2 dX9_begins_20
def f_X9_goesOut_b15    : Nat → Int32 → (Nat → Int32) → Option ((Nat → Int32))
  | 0, _, _ => none
  | n15 + 1, x2, v_s => gd (inB (6 : Int32) 100) (if ((5 : Int32) * (v_s ((6 : Int32)).toNatClampNeg)) ≤ x2 then (some (v_s)) else (gd (inB (((7 : Int32) + x2) + (5 : Int32)) 100) (gd (inB ((7 : Int32) + x2) 100) (nm (upd v_s (((7 : Int32) + x2)).toNatClampNeg (v_s ((((7 : Int32) + x2) + (5 : Int32))).toNatClampNeg)) fun y13 => f_X9_goesOut_b15 n15 ((x2 + (1 : Int32))) (y13)))))
def f_X9_goesOut  (v_s : (Nat → Int32)) (g1 : Int32) : Option ((Nat → Int32)) := gd (inB (6 : Int32) 100) (gd (inB (6 : Int32) 100) (nm (upd v_s ((6 : Int32)).toNatClampNeg ((v_s ((6 : Int32)).toNatClampNeg) - (1 : Int32))) fun y16 => f_X9_goesOut_b15 zF (((5 : Int32) * g1)) (y16)))
abbrev rm_X9_goesOut : Room := { frames := 0, cells := 0, slots := 0, locals := 0 }
set_option maxHeartbeats 4000000 in
set_option maxRecDepth 100000 in
theorem c_X9_goesOut (l : Launch) (G : zG) (sz : Nat) (a_this : Nat) (a_this_s : Nat) (a_this_text : Nat) (a_this_stars : Nat) (a_this_purses : Nat) (a_this_leases : Nat) (a_this_kept : Nat) (a_this_isKept : Nat) (a_this_offers : Nat) (a_this_seen : Nat) (v_thrown : Int32) (v_trace : Int64) (v_typed : Int32) (v_next : Int32) (v_token : Int32) (v_place : Int32) (v_value : Int32) (v_fault : Int32) (v_squares : Int32) (v_starMany : Int32) (v_tenants : Int32) (v_draftSquares : Int32) (v_draftStars : Int32) (v_draftTenants : Int32) (v_draftLeases : Int32) (v_offerMany : Int32) (v_seenMany : Int32) (v_s : (Nat → Int32)) (g1 : Int32) (R1 : (Nat → Int32)) (hf : f_X9_goesOut v_s g1 = some R1) : Met l yX9_goesOut wsX9_goesOut rm_X9_goesOut (va_Pc [.ref a_this, .int g1] (zB G [(a_this, .inr (9, [.int v_thrown, .long v_trace, .ref a_this_text, .int v_typed, .int v_next, .int v_token, .int v_place, .int v_value, .int v_fault, .int v_squares, .ref a_this_stars, .ref a_this_purses, .ref a_this_leases, .int v_starMany, .int v_tenants, .int v_draftSquares, .int v_draftStars, .int v_draftTenants, .int v_draftLeases, .ref a_this_s, .ref a_this_kept, .ref a_this_isKept, .ref a_this_offers, .int v_offerMany, .ref a_this_seen, .int v_seenMany])), (a_this_s, .inl (G.2.1, 100, .inl v_s))] sz)) (zQ G none [(a_this, .inr (9, [.int v_thrown, .long v_trace, .ref a_this_text, .int v_typed, .int v_next, .int v_token, .int v_place, .int v_value, .int v_fault, .int v_squares, .ref a_this_stars, .ref a_this_purses, .ref a_this_leases, .int v_starMany, .int v_tenants, .int v_draftSquares, .int v_draftStars, .int v_draftTenants, .int v_draftLeases, .ref a_this_s, .ref a_this_kept, .ref a_this_isKept, .ref a_this_offers, .int v_offerMany, .ref a_this_seen, .int v_seenMany])), (a_this_s, .inl (G.2.1, 100, .inl R1))] (va_A [(a_this, .inr (9, [.int v_thrown, .long v_trace, .ref a_this_text, .int v_typed, .int v_next, .int v_token, .int v_place, .int v_value, .int v_fault, .int v_squares, .ref a_this_stars, .ref a_this_purses, .ref a_this_leases, .int v_starMany, .int v_tenants, .int v_draftSquares, .int v_draftStars, .int v_draftTenants, .int v_draftLeases, .ref a_this_s, .ref a_this_kept, .ref a_this_isKept, .ref a_this_offers, .int v_offerMany, .ref a_this_seen, .int v_seenMany])), (a_this_s, .inl (G.2.1, 100, .inl v_s))] sz)) 0 0 (va_A [(a_this, .inr (9, [.int v_thrown, .long v_trace, .ref a_this_text, .int v_typed, .int v_next, .int v_token, .int v_place, .int v_value, .int v_fault, .int v_squares, .ref a_this_stars, .ref a_this_purses, .ref a_this_leases, .int v_starMany, .int v_tenants, .int v_draftSquares, .int v_draftStars, .int v_draftTenants, .int v_draftLeases, .ref a_this_s, .ref a_this_kept, .ref a_this_isKept, .ref a_this_offers, .int v_offerMany, .ref a_this_seen, .int v_seenMany])), (a_this_s, .inl (G.2.1, 100, .inl v_s))] sz) := by
  refine Met.ofW (cc := cX9_goesOut) (maxL := 3) (ret := none) (by decide) rfl ?_
  intro p e s m args below meth c s₁ B hml hv
  obtain ⟨hargs, hsz, hP, hD0, hE⟩ := hv
  have hx := B.exec
  have hb := B.bytes
  have hr := B.returns
  have hts := atoms_spec (ws := wsX9_goesOut) B.pre
  have hown : s.vm.findClass RX9 = some m.cls := findClass_of_methodNamed B.named
  have hlocks := B.notSynchronized
  have hK := hE.1
  have hC : CallFix p m c cX9_goesOut 3 s args wsX9_goesOut RX9 := ⟨hx, hb, hml, hown, hts⟩
  have inX9 : ∀ w ∈ wsX90, w ∈ wsX9_goesOut := by decide +kernel
  have lk22 := hts (.fieldLink RX9 22 "SkyLeasesModel" "s" "[I") (by decide +kernel)
  subst hsz
  have hD := hD0.self (sz := s.heap.size)
  generalize hAe : va_A [(a_this, .inr (9, [.int v_thrown, .long v_trace, .ref a_this_text, .int v_typed, .int v_next, .int v_token, .int v_place, .int v_value, .int v_fault, .int v_squares, .ref a_this_stars, .ref a_this_purses, .ref a_this_leases, .int v_starMany, .int v_tenants, .int v_draftSquares, .int v_draftStars, .int v_draftTenants, .int v_draftLeases, .ref a_this_s, .ref a_this_kept, .ref a_this_isKept, .ref a_this_offers, .int v_offerMany, .ref a_this_seen, .int v_seenMany])), (a_this_s, .inl (G.2.1, 100, .inl v_s))] s.heap.size = A at hD ⊢
  have hA : ∀ q : Nat, s.heap.size ≤ q → A q := fun q h => by rw [← hAe]; exact Or.inr h
  have hS : va_S A s.heap s.heap [] := va_S.rf
  have hP : va_P G.1 vwCl [(a_this, .inr (9, [.int v_thrown, .long v_trace, .ref a_this_text, .int v_typed, .int v_next, .int v_token, .int v_place, .int v_value, .int v_fault, .int v_squares, .ref a_this_stars, .ref a_this_purses, .ref a_this_leases, .int v_starMany, .int v_tenants, .int v_draftSquares, .int v_draftStars, .int v_draftTenants, .int v_draftLeases, .ref a_this_s, .ref a_this_kept, .ref a_this_isKept, .ref a_this_offers, .int v_offerMany, .ref a_this_seen, .int v_seenMany])), (a_this_s, .inl (G.2.1, 100, .inl v_s))] s.heap := hP
  have hl := lv_entry ([.ref a_this, .int g1]) (n := 3) (Nat.le_of_ble_eq_true rfl)
  have hent : entryFrame m args 3 = F0 m 0 ((lg_sl ([.ref a_this, .int g1]) ++ List.replicate (3 - (lg_sl ([.ref a_this, .int g1])).length) Slot.unset).toArray) [] := by rw [hargs]; exact lg_entry_eq m [.ref a_this, .int g1] 3
  refine W.eq hent ?_
  clear hent
  generalize (lg_sl ([.ref a_this, .int g1]) ++ List.replicate (3 - (lg_sl ([.ref a_this, .int g1])).length) Slot.unset).toArray = ls at hl ⊢
  have hl : lv_has ls 3 [(0, .ref a_this), (1, .int g1)] := hl
  generalize hQ : MQ below _ args s 0 0 _ = QQ
  change W p l e rm_X9_goesOut s m args below meth c s.heap [] 0 0 QQ _
  have j15 : ∀ (nn : Nat), ∀ (x2 : Int32), ∀ (v_s : (Nat → Int32)), ∀ (ls : Array Slot), lv_has ls 3 [(0, .ref a_this), (2, .int x2)] → ∀ (H : Heap) (locs : List Loc), va_P G.1 vwCl [(a_this, .inr (9, [.int v_thrown, .long v_trace, .ref a_this_text, .int v_typed, .int v_next, .int v_token, .int v_place, .int v_value, .int v_fault, .int v_squares, .ref a_this_stars, .ref a_this_purses, .ref a_this_leases, .int v_starMany, .int v_tenants, .int v_draftSquares, .int v_draftStars, .int v_draftTenants, .int v_draftLeases, .ref a_this_s, .ref a_this_kept, .ref a_this_isKept, .ref a_this_offers, .int v_offerMany, .ref a_this_seen, .int v_seenMany])), (a_this_s, .inl (G.2.1, 100, .inl v_s))] H → va_D A [(a_this, .inr (9, [.int v_thrown, .long v_trace, .ref a_this_text, .int v_typed, .int v_next, .int v_token, .int v_place, .int v_value, .int v_fault, .int v_squares, .ref a_this_stars, .ref a_this_purses, .ref a_this_leases, .int v_starMany, .int v_tenants, .int v_draftSquares, .int v_draftStars, .int v_draftTenants, .int v_draftLeases, .ref a_this_s, .ref a_this_kept, .ref a_this_isKept, .ref a_this_offers, .int v_offerMany, .ref a_this_seen, .int v_seenMany])), (a_this_s, .inl (G.2.1, 100, .inl v_s))] → va_S A s.heap H locs → f_X9_goesOut_b15 nn x2 v_s = some R1 → W p l e rm_X9_goesOut s m args below meth c H locs 0 0 QQ (F0 m 15 ls []) := by
    intro nn
    induction nn with
    | zero =>
      intro x2 v_s ls hl H locs hP hD hS hf
      rw [f_X9_goesOut_b15] at hf
      cases hf
    | succ n15 ih =>
      intro x2 v_s ls hl H locs hP hD hS hf
      rw [f_X9_goesOut_b15] at hf
      refine lv_iload_n hx hb dX9_goesOut_15 rfl (lv_at hl 1 rfl) ?_
      refine lv_iconst (v := (5 : Int32)) hx hb dX9_goesOut_16 (by decide) ?_
      refine lv_aload_n hx hb dX9_goesOut_17 rfl (lv_at hl 0 rfl) ?_
      refine va_get (D := G.1) (ci := 9) (v := .ref a_this_s) (C := RX9) (T := TX9) (N := 26) hx hb hts inX9 hown hK hP 0 rfl rfl 19 (by decide) lk22 (fun _ h9 => h9) rfl dX9_goesOut_18 ?_
      refine lv_bipush (v := (6 : Int32)) hx hb dX9_goesOut_21 (by decide) ?_
      obtain ⟨hg9, hf⟩ := gd_some hf
      refine va_iald hx hb hK hP 1 0 rfl rfl (inB_in hg9) dX9_goesOut_23 ?_
      refine lv_imul hx hb dX9_goesOut_24 ?_
      refine lv_icmp_ge (tgt := 54) hx hb dX9_goesOut_25 (by decide) (fun hc10 => ?_) (fun hc10 => ?_)
      · have hf := if_t hf hc10
        have hr0 := so1 hf
        subst hr0
        rw [← hQ]
        exact W.vret hx hb hr (fun t ht hW => ⟨⟨rfl, by rw [ht]; exact hP⟩, hS.F ht⟩) hS.2.2 dX9_goesOut_54
      · have hf := if_f hf hc10
        refine lv_aload_n hx hb dX9_goesOut_28 rfl (lv_at hl 0 rfl) ?_
        refine va_get (D := G.1) (ci := 9) (v := .ref a_this_s) (C := RX9) (T := TX9) (N := 26) hx hb hts inX9 hown hK hP 0 rfl rfl 19 (by decide) lk22 (fun _ h9 => h9) rfl dX9_goesOut_29 ?_
        refine lv_bipush (v := (7 : Int32)) hx hb dX9_goesOut_32 (by decide) ?_
        refine lv_iload_n hx hb dX9_goesOut_34 rfl (lv_at hl 1 rfl) ?_
        refine lv_iadd hx hb dX9_goesOut_35 ?_
        refine lv_aload_n hx hb dX9_goesOut_36 rfl (lv_at hl 0 rfl) ?_
        refine va_get (D := G.1) (ci := 9) (v := .ref a_this_s) (C := RX9) (T := TX9) (N := 26) hx hb hts inX9 hown hK hP 0 rfl rfl 19 (by decide) lk22 (fun _ h9 => h9) rfl dX9_goesOut_37 ?_
        refine lv_bipush (v := (7 : Int32)) hx hb dX9_goesOut_40 (by decide) ?_
        refine lv_iload_n hx hb dX9_goesOut_42 rfl (lv_at hl 1 rfl) ?_
        refine lv_iadd hx hb dX9_goesOut_43 ?_
        refine lv_iconst (v := (5 : Int32)) hx hb dX9_goesOut_44 (by decide) ?_
        refine lv_iadd hx hb dX9_goesOut_45 ?_
        obtain ⟨hg11, hf⟩ := gd_some hf
        refine va_iald hx hb hK hP 1 0 rfl rfl (inB_in hg11) dX9_goesOut_46 ?_
        obtain ⟨hg12, hf⟩ := gd_some hf
        refine z_iast hx hb hK hP hD hS 1 0 rfl rfl (inB_in hg12) dX9_goesOut_47 (fun gg => [(a_this, .inr (9, [.int v_thrown, .long v_trace, .ref a_this_text, .int v_typed, .int v_next, .int v_token, .int v_place, .int v_value, .int v_fault, .int v_squares, .ref a_this_stars, .ref a_this_purses, .ref a_this_leases, .int v_starMany, .int v_tenants, .int v_draftSquares, .int v_draftStars, .int v_draftTenants, .int v_draftLeases, .ref a_this_s, .ref a_this_kept, .ref a_this_isKept, .ref a_this_offers, .int v_offerMany, .ref a_this_seen, .int v_seenMany])), (a_this_s, .inl (G.2.1, 100, .inl gg))]) (fun gg => rfl) (fun y13 H locs ey13 hP hD hS => ?_)
        have hf := nm_to hf ey13
        have hP : va_P G.1 vwCl [(a_this, .inr (9, [.int v_thrown, .long v_trace, .ref a_this_text, .int v_typed, .int v_next, .int v_token, .int v_place, .int v_value, .int v_fault, .int v_squares, .ref a_this_stars, .ref a_this_purses, .ref a_this_leases, .int v_starMany, .int v_tenants, .int v_draftSquares, .int v_draftStars, .int v_draftTenants, .int v_draftLeases, .ref a_this_s, .ref a_this_kept, .ref a_this_isKept, .ref a_this_offers, .int v_offerMany, .ref a_this_seen, .int v_seenMany])), (a_this_s, .inl (G.2.1, 100, .inl y13))] H := hP
        have hD : va_D A [(a_this, .inr (9, [.int v_thrown, .long v_trace, .ref a_this_text, .int v_typed, .int v_next, .int v_token, .int v_place, .int v_value, .int v_fault, .int v_squares, .ref a_this_stars, .ref a_this_purses, .ref a_this_leases, .int v_starMany, .int v_tenants, .int v_draftSquares, .int v_draftStars, .int v_draftTenants, .int v_draftLeases, .ref a_this_s, .ref a_this_kept, .ref a_this_isKept, .ref a_this_offers, .int v_offerMany, .ref a_this_seen, .int v_seenMany])), (a_this_s, .inl (G.2.1, 100, .inl y13))] := hD
        refine lv_iinc (v := (x2 + (1 : Int32))) (lv' := [(2, .int (x2 + (1 : Int32))), (0, .ref a_this)]) hx hb dX9_goesOut_48 hl (k := 1) rfl rfl (by decide) rfl (fun ls hl => ?_)
        refine lv_goto (tgt := 15) hx hb dX9_goesOut_51 (by decide) ?_
        exact ih ((x2 + (1 : Int32))) (y13) ls (lv_sub hl [1, 0] rfl) _ _ hP hD hS hf
  have hSH := hS
  unfold f_X9_goesOut at hf
  refine lv_aload_n hx hb dX9_goesOut_0 rfl (lv_at hl 0 rfl) ?_
  refine va_get (D := G.1) (ci := 9) (v := .ref a_this_s) (C := RX9) (T := TX9) (N := 26) hx hb hts inX9 hown hK hP 0 rfl rfl 19 (by decide) lk22 (fun _ h9 => h9) rfl dX9_goesOut_1 ?_
  refine lv_bipush (v := (6 : Int32)) hx hb dX9_goesOut_4 (by decide) ?_
  refine lv_dup2_11 hx hb dX9_goesOut_6 rfl rfl ?_
  obtain ⟨hg14, hf⟩ := gd_some hf
  refine va_iald hx hb hK hP 1 0 rfl rfl (inB_in hg14) dX9_goesOut_7 ?_
  refine lv_iconst (v := (1 : Int32)) hx hb dX9_goesOut_8 (by decide) ?_
  refine lv_isub hx hb dX9_goesOut_9 ?_
  obtain ⟨hg15, hf⟩ := gd_some hf
  refine z_iast hx hb hK hP hD hS 1 0 rfl rfl (inB_in hg15) dX9_goesOut_10 (fun gg => [(a_this, .inr (9, [.int v_thrown, .long v_trace, .ref a_this_text, .int v_typed, .int v_next, .int v_token, .int v_place, .int v_value, .int v_fault, .int v_squares, .ref a_this_stars, .ref a_this_purses, .ref a_this_leases, .int v_starMany, .int v_tenants, .int v_draftSquares, .int v_draftStars, .int v_draftTenants, .int v_draftLeases, .ref a_this_s, .ref a_this_kept, .ref a_this_isKept, .ref a_this_offers, .int v_offerMany, .ref a_this_seen, .int v_seenMany])), (a_this_s, .inl (G.2.1, 100, .inl gg))]) (fun gg => rfl) (fun y16 H locs ey16 hP hD hS => ?_)
  have hf := nm_to hf ey16
  have hP : va_P G.1 vwCl [(a_this, .inr (9, [.int v_thrown, .long v_trace, .ref a_this_text, .int v_typed, .int v_next, .int v_token, .int v_place, .int v_value, .int v_fault, .int v_squares, .ref a_this_stars, .ref a_this_purses, .ref a_this_leases, .int v_starMany, .int v_tenants, .int v_draftSquares, .int v_draftStars, .int v_draftTenants, .int v_draftLeases, .ref a_this_s, .ref a_this_kept, .ref a_this_isKept, .ref a_this_offers, .int v_offerMany, .ref a_this_seen, .int v_seenMany])), (a_this_s, .inl (G.2.1, 100, .inl y16))] H := hP
  have hD : va_D A [(a_this, .inr (9, [.int v_thrown, .long v_trace, .ref a_this_text, .int v_typed, .int v_next, .int v_token, .int v_place, .int v_value, .int v_fault, .int v_squares, .ref a_this_stars, .ref a_this_purses, .ref a_this_leases, .int v_starMany, .int v_tenants, .int v_draftSquares, .int v_draftStars, .int v_draftTenants, .int v_draftLeases, .ref a_this_s, .ref a_this_kept, .ref a_this_isKept, .ref a_this_offers, .int v_offerMany, .ref a_this_seen, .int v_seenMany])), (a_this_s, .inl (G.2.1, 100, .inl y16))] := hD
  refine lv_iconst (v := (5 : Int32)) hx hb dX9_goesOut_11 (by decide) ?_
  refine lv_iload_n hx hb dX9_goesOut_12 rfl (lv_at hl 1 rfl) ?_
  refine lv_imul hx hb dX9_goesOut_13 ?_
  refine lv_istore_n (lv' := [(2, .int ((5 : Int32) * g1)), (0, .ref a_this), (1, .int g1)]) hx hb dX9_goesOut_14 rfl hl (by decide) rfl (fun ls hl => ?_)
  exact j15 zF (((5 : Int32) * g1)) (y16) ls (lv_sub hl [1, 0] rfl) _ _ hP hD hS hf
theorem hd_X9_goesOut : yX9_goesOut.cls = RX9 ∧ yX9_goesOut.cls ≠ "java/lang/invoke/MethodHandle" ∧ yX9_goesOut.cls ≠ "java/lang/invoke/VarHandle" ∧ (parseMethodDescriptor yX9_goesOut.desc).map (fun d => d.parameters.length) = some 1 := by decide +kernel
def f_X9_ends  (v_thrown : Int32) (v_s : (Nat → Int32)) (g1 : Int32) : Option (Int32 × Int32 × (Nat → Int32)) := gd (inB (6 : Int32) 100) (bd1 (f_X9_in (g1) ((0 : Int32)) (((v_s ((6 : Int32)).toNatClampNeg) - (1 : Int32)))) fun r8 => if r8 = (0 : Int32) then (some ((-1 : Int32), (0 : Int32), v_s)) else (bd1 (f_X9_notes (v_s) ((0 : Int32)) (g1)) fun w10 => bd1 (f_X9_goesOut (w10) (g1)) fun w11 => gd (inB (6 : Int32) 100) (some ((w11 ((6 : Int32)).toNatClampNeg), (0 : Int32), w11))))
abbrev rm_X9_ends : Room := { frames := 1, cells := 0, slots := 0, locals := 24 }
set_option maxHeartbeats 4000000 in
set_option maxRecDepth 100000 in
theorem c_X9_ends (l : Launch) (G : zG) (sz : Nat) (a_this : Nat) (a_this_s : Nat) (a_this_text : Nat) (a_this_stars : Nat) (a_this_purses : Nat) (a_this_leases : Nat) (a_this_kept : Nat) (a_this_isKept : Nat) (a_this_offers : Nat) (a_this_seen : Nat) (v_thrown : Int32) (v_trace : Int64) (v_typed : Int32) (v_next : Int32) (v_token : Int32) (v_place : Int32) (v_value : Int32) (v_fault : Int32) (v_squares : Int32) (v_starMany : Int32) (v_tenants : Int32) (v_draftSquares : Int32) (v_draftStars : Int32) (v_draftTenants : Int32) (v_draftLeases : Int32) (v_offerMany : Int32) (v_seenMany : Int32) (v_s : (Nat → Int32)) (g1 : Int32) (R0 : Int32) (R1 : Int32) (R2 : (Nat → Int32)) (hf : f_X9_ends v_thrown v_s g1 = some (R0, R1, R2)) : Met l yX9_ends wsX9_ends rm_X9_ends (va_Pc [.ref a_this, .int g1] (zB G [(a_this, .inr (9, [.int v_thrown, .long v_trace, .ref a_this_text, .int v_typed, .int v_next, .int v_token, .int v_place, .int v_value, .int v_fault, .int v_squares, .ref a_this_stars, .ref a_this_purses, .ref a_this_leases, .int v_starMany, .int v_tenants, .int v_draftSquares, .int v_draftStars, .int v_draftTenants, .int v_draftLeases, .ref a_this_s, .ref a_this_kept, .ref a_this_isKept, .ref a_this_offers, .int v_offerMany, .ref a_this_seen, .int v_seenMany])), (a_this_s, .inl (G.2.1, 100, .inl v_s))] sz)) (zQ G (some (.int R0)) [(a_this, .inr (9, [.int R1, .long v_trace, .ref a_this_text, .int v_typed, .int v_next, .int v_token, .int v_place, .int v_value, .int v_fault, .int v_squares, .ref a_this_stars, .ref a_this_purses, .ref a_this_leases, .int v_starMany, .int v_tenants, .int v_draftSquares, .int v_draftStars, .int v_draftTenants, .int v_draftLeases, .ref a_this_s, .ref a_this_kept, .ref a_this_isKept, .ref a_this_offers, .int v_offerMany, .ref a_this_seen, .int v_seenMany])), (a_this_s, .inl (G.2.1, 100, .inl R2))] (va_A [(a_this, .inr (9, [.int v_thrown, .long v_trace, .ref a_this_text, .int v_typed, .int v_next, .int v_token, .int v_place, .int v_value, .int v_fault, .int v_squares, .ref a_this_stars, .ref a_this_purses, .ref a_this_leases, .int v_starMany, .int v_tenants, .int v_draftSquares, .int v_draftStars, .int v_draftTenants, .int v_draftLeases, .ref a_this_s, .ref a_this_kept, .ref a_this_isKept, .ref a_this_offers, .int v_offerMany, .ref a_this_seen, .int v_seenMany])), (a_this_s, .inl (G.2.1, 100, .inl v_s))] sz)) 0 0 (va_A [(a_this, .inr (9, [.int v_thrown, .long v_trace, .ref a_this_text, .int v_typed, .int v_next, .int v_token, .int v_place, .int v_value, .int v_fault, .int v_squares, .ref a_this_stars, .ref a_this_purses, .ref a_this_leases, .int v_starMany, .int v_tenants, .int v_draftSquares, .int v_draftStars, .int v_draftTenants, .int v_draftLeases, .ref a_this_s, .ref a_this_kept, .ref a_this_isKept, .ref a_this_offers, .int v_offerMany, .ref a_this_seen, .int v_seenMany])), (a_this_s, .inl (G.2.1, 100, .inl v_s))] sz) := by
  refine Met.ofW (cc := cX9_ends) (maxL := 2) (ret := (some .int)) (by decide) rfl ?_
  intro p e s m args below meth c s₁ B hml hv
  obtain ⟨hargs, hsz, hP, hD0, hE⟩ := hv
  have hx := B.exec
  have hb := B.bytes
  have hr := B.returns
  have hts := atoms_spec (ws := wsX9_ends) B.pre
  have hown : s.vm.findClass RX9 = some m.cls := findClass_of_methodNamed B.named
  have hlocks := B.notSynchronized
  have hK := hE.1
  have hC : CallFix p m c cX9_ends 2 s args wsX9_ends RX9 := ⟨hx, hb, hml, hown, hts⟩
  have inX9 : ∀ w ∈ wsX90, w ∈ wsX9_ends := by decide +kernel
  have lk22 := hts (.fieldLink RX9 22 "SkyLeasesModel" "s" "[I") (by decide +kernel)
  have lk42 := hts (.fieldLink RX9 42 "SkyLeasesModel" "thrown" "I") (by decide +kernel)
  subst hsz
  have hD := hD0.self (sz := s.heap.size)
  generalize hAe : va_A [(a_this, .inr (9, [.int v_thrown, .long v_trace, .ref a_this_text, .int v_typed, .int v_next, .int v_token, .int v_place, .int v_value, .int v_fault, .int v_squares, .ref a_this_stars, .ref a_this_purses, .ref a_this_leases, .int v_starMany, .int v_tenants, .int v_draftSquares, .int v_draftStars, .int v_draftTenants, .int v_draftLeases, .ref a_this_s, .ref a_this_kept, .ref a_this_isKept, .ref a_this_offers, .int v_offerMany, .ref a_this_seen, .int v_seenMany])), (a_this_s, .inl (G.2.1, 100, .inl v_s))] s.heap.size = A at hD ⊢
  have hA : ∀ q : Nat, s.heap.size ≤ q → A q := fun q h => by rw [← hAe]; exact Or.inr h
  have hS : va_S A s.heap s.heap [] := va_S.rf
  have hP : va_P G.1 vwCl [(a_this, .inr (9, [.int v_thrown, .long v_trace, .ref a_this_text, .int v_typed, .int v_next, .int v_token, .int v_place, .int v_value, .int v_fault, .int v_squares, .ref a_this_stars, .ref a_this_purses, .ref a_this_leases, .int v_starMany, .int v_tenants, .int v_draftSquares, .int v_draftStars, .int v_draftTenants, .int v_draftLeases, .ref a_this_s, .ref a_this_kept, .ref a_this_isKept, .ref a_this_offers, .int v_offerMany, .ref a_this_seen, .int v_seenMany])), (a_this_s, .inl (G.2.1, 100, .inl v_s))] s.heap := hP
  have hl := lv_entry ([.ref a_this, .int g1]) (n := 2) (Nat.le_of_ble_eq_true rfl)
  have hent : entryFrame m args 2 = F0 m 0 ((lg_sl ([.ref a_this, .int g1]) ++ List.replicate (2 - (lg_sl ([.ref a_this, .int g1])).length) Slot.unset).toArray) [] := by rw [hargs]; exact lg_entry_eq m [.ref a_this, .int g1] 2
  refine W.eq hent ?_
  clear hent
  generalize (lg_sl ([.ref a_this, .int g1]) ++ List.replicate (2 - (lg_sl ([.ref a_this, .int g1])).length) Slot.unset).toArray = ls at hl ⊢
  have hl : lv_has ls 2 [(0, .ref a_this), (1, .int g1)] := hl
  generalize hQ : MQ below _ args s 0 0 _ = QQ
  change W p l e rm_X9_ends s m args below meth c s.heap [] 0 0 QQ _
  have hSH := hS
  unfold f_X9_ends at hf
  refine lv_aload_n hx hb dX9_ends_0 rfl (lv_at hl 0 rfl) ?_
  refine lv_iconst (v := (0 : Int32)) hx hb dX9_ends_1 (by decide) ?_
  refine va_put (D := G.1) (ci := 9) (v := .int (0 : Int32)) (ty := .int) (C := RX9) (T := TX9) (N := 26) hx hb hts inX9 tyX9 tyX9_ok nmX9 hown hK hP hD hS 0 rfl rfl 0 (by decide) lk42 (fun _ h9 => h9) rfl (by decide +kernel) rfl rfl (Nat.le_of_ble_eq_true rfl) dX9_ends_2 (fun H locs hP hD hS => ?_)
  have hP : va_P G.1 vwCl [(a_this, .inr (9, [.int (0 : Int32), .long v_trace, .ref a_this_text, .int v_typed, .int v_next, .int v_token, .int v_place, .int v_value, .int v_fault, .int v_squares, .ref a_this_stars, .ref a_this_purses, .ref a_this_leases, .int v_starMany, .int v_tenants, .int v_draftSquares, .int v_draftStars, .int v_draftTenants, .int v_draftLeases, .ref a_this_s, .ref a_this_kept, .ref a_this_isKept, .ref a_this_offers, .int v_offerMany, .ref a_this_seen, .int v_seenMany])), (a_this_s, .inl (G.2.1, 100, .inl v_s))] H := hP
  have hD : va_D A [(a_this, .inr (9, [.int (0 : Int32), .long v_trace, .ref a_this_text, .int v_typed, .int v_next, .int v_token, .int v_place, .int v_value, .int v_fault, .int v_squares, .ref a_this_stars, .ref a_this_purses, .ref a_this_leases, .int v_starMany, .int v_tenants, .int v_draftSquares, .int v_draftStars, .int v_draftTenants, .int v_draftLeases, .ref a_this_s, .ref a_this_kept, .ref a_this_isKept, .ref a_this_offers, .int v_offerMany, .ref a_this_seen, .int v_seenMany])), (a_this_s, .inl (G.2.1, 100, .inl v_s))] := hD
  refine lv_iload_n hx hb dX9_ends_5 rfl (lv_at hl 1 rfl) ?_
  refine lv_iconst (v := (0 : Int32)) hx hb dX9_ends_6 (by decide) ?_
  refine lv_aload_n hx hb dX9_ends_7 rfl (lv_at hl 0 rfl) ?_
  refine va_get (D := G.1) (ci := 9) (v := .ref a_this_s) (C := RX9) (T := TX9) (N := 26) hx hb hts inX9 hown hK hP 0 rfl rfl 19 (by decide) lk22 (fun _ h9 => h9) rfl dX9_ends_8 ?_
  refine lv_bipush (v := (6 : Int32)) hx hb dX9_ends_11 (by decide) ?_
  obtain ⟨hg7, hf⟩ := gd_some hf
  refine va_iald hx hb hK hP 1 0 rfl rfl (inB_in hg7) dX9_ends_13 ?_
  refine lv_iconst (v := (1 : Int32)) hx hb dX9_ends_14 (by decide) ?_
  refine lv_isub hx hb dX9_ends_15 ?_
  obtain ⟨r8, hu, hf⟩ := bd1_some hf
  refine zRi (va_runS (As := [.int g1, .int (0 : Int32), .int ((v_s ((6 : Int32)).toNatClampNeg) - (1 : Int32))]) (rest := []) hC (c_X9_in l G (g1) ((0 : Int32)) (((v_s ((6 : Int32)).toNatClampNeg) - (1 : Int32))) r8 hu) (va_cwS 3 hts gX9_ends_X9_in rfl rfl rfl hd_X9_in.2 ⟨(Nat.le_of_ble_eq_true rfl), (Nat.le_of_ble_eq_true rfl)⟩) (zPS hE hP [] rfl) rfl rfl hl.1 rfl (lv_room (Nat.le_of_ble_eq_true rfl)) dX9_ends_16 ⟨Nat.zero_le _, Nat.zero_le _⟩) ?_
  refine lv_if_ne (tgt := 24) hx hb dX9_ends_19 (by decide) (fun hc9 => ?_) (fun hc9 => ?_)
  · have hf := if_f hf hc9
    refine lv_aload_n hx hb dX9_ends_24 rfl (lv_at hl 0 rfl) ?_
    refine lv_iconst (v := (0 : Int32)) hx hb dX9_ends_25 (by decide) ?_
    refine lv_iload_n hx hb dX9_ends_26 rfl (lv_at hl 1 rfl) ?_
    obtain ⟨w10, hu, hf⟩ := bd1_some hf
    refine zWn (wr := []) (ws2 := [(a_this, .inr (9, [.int (0 : Int32), .long v_trace, .ref a_this_text, .int v_typed, .int v_next, .int v_token, .int v_place, .int v_value, .int v_fault, .int v_squares, .ref a_this_stars, .ref a_this_purses, .ref a_this_leases, .int v_starMany, .int v_tenants, .int v_draftSquares, .int v_draftStars, .int v_draftTenants, .int v_draftLeases, .ref a_this_s, .ref a_this_kept, .ref a_this_isKept, .ref a_this_offers, .int v_offerMany, .ref a_this_seen, .int v_seenMany])), (a_this_s, .inl (G.2.1, 100, .inl w10))]) (va_runV (As := [.int (0 : Int32), .int g1]) (rest := []) hC (c_X9_notes l G _ a_this a_this_s a_this_text a_this_stars a_this_purses a_this_leases a_this_kept a_this_isKept a_this_offers a_this_seen ((0 : Int32)) (v_trace) (v_typed) (v_next) (v_token) (v_place) (v_value) (v_fault) (v_squares) (v_starMany) (v_tenants) (v_draftSquares) (v_draftStars) (v_draftTenants) (v_draftLeases) (v_offerMany) (v_seenMany) (v_s) ((0 : Int32)) (g1) w10 hu) (cwV 2 hts gX9_ends_X9_notes rfl rfl rfl hd_X9_notes ⟨(Nat.le_of_ble_eq_true rfl), (Nat.le_of_ble_eq_true rfl)⟩) (zPVw hE hP hD [0, 1] rfl rfl 0 rfl rfl) rfl rfl hl.1 rfl (lv_room (Nat.le_of_ble_eq_true rfl)) dX9_ends_27 ⟨Nat.zero_le _, Nat.zero_le _⟩) hP hD hS hA [0, 1] [] [0, 1] rfl rfl rfl rfl (by decide) rfl rfl rfl (fun H locs hP hD hS => ?_)
    refine lv_aload_n hx hb dX9_ends_30 rfl (lv_at hl 0 rfl) ?_
    refine lv_iload_n hx hb dX9_ends_31 rfl (lv_at hl 1 rfl) ?_
    obtain ⟨w11, hu, hf⟩ := bd1_some hf
    refine zWn (wr := []) (ws2 := [(a_this, .inr (9, [.int (0 : Int32), .long v_trace, .ref a_this_text, .int v_typed, .int v_next, .int v_token, .int v_place, .int v_value, .int v_fault, .int v_squares, .ref a_this_stars, .ref a_this_purses, .ref a_this_leases, .int v_starMany, .int v_tenants, .int v_draftSquares, .int v_draftStars, .int v_draftTenants, .int v_draftLeases, .ref a_this_s, .ref a_this_kept, .ref a_this_isKept, .ref a_this_offers, .int v_offerMany, .ref a_this_seen, .int v_seenMany])), (a_this_s, .inl (G.2.1, 100, .inl w11))]) (va_runV (As := [.int g1]) (rest := []) hC (c_X9_goesOut l G _ a_this a_this_s a_this_text a_this_stars a_this_purses a_this_leases a_this_kept a_this_isKept a_this_offers a_this_seen ((0 : Int32)) (v_trace) (v_typed) (v_next) (v_token) (v_place) (v_value) (v_fault) (v_squares) (v_starMany) (v_tenants) (v_draftSquares) (v_draftStars) (v_draftTenants) (v_draftLeases) (v_offerMany) (v_seenMany) (w10) (g1) w11 hu) (cwV 1 hts gX9_ends_X9_goesOut rfl rfl rfl hd_X9_goesOut ⟨(Nat.le_of_ble_eq_true rfl), (Nat.le_of_ble_eq_true rfl)⟩) (zPVw hE hP hD [0, 1] rfl rfl 0 rfl rfl) rfl rfl hl.1 rfl (lv_room (Nat.le_of_ble_eq_true rfl)) dX9_ends_32 ⟨Nat.zero_le _, Nat.zero_le _⟩) hP hD hS hA [0, 1] [] [0, 1] rfl rfl rfl rfl (by decide) rfl rfl rfl (fun H locs hP hD hS => ?_)
    refine lv_aload_n hx hb dX9_ends_35 rfl (lv_at hl 0 rfl) ?_
    refine va_get (D := G.1) (ci := 9) (v := .ref a_this_s) (C := RX9) (T := TX9) (N := 26) hx hb hts inX9 hown hK hP 0 rfl rfl 19 (by decide) lk22 (fun _ h9 => h9) rfl dX9_ends_36 ?_
    refine lv_bipush (v := (6 : Int32)) hx hb dX9_ends_39 (by decide) ?_
    obtain ⟨hg12, hf⟩ := gd_some hf
    refine va_iald hx hb hK hP 1 0 rfl rfl (inB_in hg12) dX9_ends_41 ?_
    obtain ⟨hr0, hr1, hr2⟩ := so3 hf
    subst hr0
    subst hr1
    subst hr2
    rw [← hQ]
    exact W.iret (v := (w11 ((6 : Int32)).toNatClampNeg)) hx hb hr (fun t ht hW => ⟨⟨rfl, by rw [ht]; exact hP⟩, hS.F ht⟩) hS.2.2 dX9_ends_42
  · have hf := if_t hf hc9
    refine lv_iconst (v := (-1 : Int32)) hx hb dX9_ends_22 (by decide) ?_
    obtain ⟨hr0, hr1, hr2⟩ := so3 hf
    subst hr0
    subst hr1
    subst hr2
    rw [← hQ]
    exact W.iret (v := (-1 : Int32)) hx hb hr (fun t ht hW => ⟨⟨rfl, by rw [ht]; exact hP⟩, hS.F ht⟩) hS.2.2 dX9_ends_23
def f_X9_undo_b162    (v_thrown : Int32) (v_s : (Nat → Int32)) : Option (Int32 × Int32 × (Nat → Int32)) := gd (inB (6 : Int32) 100) (some ((v_s ((6 : Int32)).toNatClampNeg), v_thrown, v_s))
def f_X9_undo_b117   (x1 : Int32) (x2 : Int32) (v_thrown : Int32) : Nat → Int32 → (Nat → Int32) → Option (Int32 × Int32 × (Nat → Int32))
  | 0, _, _ => none
  | n117 + 1, x3, v_s => if (5 : Int32) ≤ x3 then (gd (inB (6 : Int32) 100) (gd (inB (6 : Int32) 100) (nm (upd v_s ((6 : Int32)).toNatClampNeg ((v_s ((6 : Int32)).toNatClampNeg) + (1 : Int32))) fun y31 => f_X9_undo_b162 (v_thrown) (y31)))) else (gd (inB ((x1 + (2 : Int32)) + x3) 100) (gd (inB (((7 : Int32) + ((5 : Int32) * x2)) + x3) 100) (nm (upd v_s ((((7 : Int32) + ((5 : Int32) * x2)) + x3)).toNatClampNeg (v_s (((x1 + (2 : Int32)) + x3)).toNatClampNeg)) fun y34 => f_X9_undo_b117 x1 x2 v_thrown n117 ((x3 + (1 : Int32))) (y34))))
def f_X9_undo_b82   (x1 : Int32) (x2 : Int32) (v_thrown : Int32) : Nat → Int32 → (Nat → Int32) → Option (Int32 × Int32 × (Nat → Int32))
  | 0, _, _ => none
  | n82 + 1, x3, v_s => if x3 < ((5 : Int32) * x2) then (f_X9_undo_b117 (x1) (x2) (v_thrown) zF ((0 : Int32)) (v_s)) else (gd (inB ((7 : Int32) + x3) 100) (gd (inB (((7 : Int32) + x3) + (5 : Int32)) 100) (nm (upd v_s ((((7 : Int32) + x3) + (5 : Int32))).toNatClampNeg (v_s (((7 : Int32) + x3)).toNatClampNeg)) fun y38 => f_X9_undo_b82 x1 x2 v_thrown n82 ((x3 + (-1 : Int32))) (y38))))
def f_X9_undo  (v_thrown : Int32) (v_s : (Nat → Int32))  : Option (Int32 × Int32 × (Nat → Int32)) := gd (inB (57 : Int32) 100) (if (v_s ((57 : Int32)).toNatClampNeg) = (0 : Int32) then (some ((-2 : Int32), (0 : Int32), v_s)) else (gd (inB (57 : Int32) 100) (gd (inB (57 : Int32) 100) (nm (upd v_s ((57 : Int32)).toNatClampNeg ((v_s ((57 : Int32)).toNatClampNeg) - (1 : Int32))) fun y43 => gd (inB (57 : Int32) 100) (nm (((58 : Int32) + ((7 : Int32) * (y43 ((57 : Int32)).toNatClampNeg)))) fun y45 => gd (inB (y45 + (1 : Int32)) 100) (nm ((y43 ((y45 + (1 : Int32))).toNatClampNeg)) fun y47 => gd (inB y45 100) (if (y43 (y45).toNatClampNeg) = (1 : Int32) then (bd1 (f_X9_goesOut (y43) (y47)) fun w52 => f_X9_undo_b162 ((0 : Int32)) (w52)) else (gd (inB (6 : Int32) 100) (nm ((((5 : Int32) * (y43 ((6 : Int32)).toNatClampNeg)) - (1 : Int32))) fun y51 => f_X9_undo_b82 (y45) (y47) ((0 : Int32)) zF (y51) (y43))))))))))
abbrev rm_X9_undo : Room := { frames := 1, cells := 0, slots := 0, locals := 22 }
set_option maxHeartbeats 4000000 in
set_option maxRecDepth 100000 in
theorem c_X9_undo (l : Launch) (G : zG) (sz : Nat) (a_this : Nat) (a_this_s : Nat) (a_this_text : Nat) (a_this_stars : Nat) (a_this_purses : Nat) (a_this_leases : Nat) (a_this_kept : Nat) (a_this_isKept : Nat) (a_this_offers : Nat) (a_this_seen : Nat) (v_thrown : Int32) (v_trace : Int64) (v_typed : Int32) (v_next : Int32) (v_token : Int32) (v_place : Int32) (v_value : Int32) (v_fault : Int32) (v_squares : Int32) (v_starMany : Int32) (v_tenants : Int32) (v_draftSquares : Int32) (v_draftStars : Int32) (v_draftTenants : Int32) (v_draftLeases : Int32) (v_offerMany : Int32) (v_seenMany : Int32) (v_s : (Nat → Int32)) (R0 : Int32) (R1 : Int32) (R2 : (Nat → Int32)) (hf : f_X9_undo v_thrown v_s = some (R0, R1, R2)) : Met l yX9_undo wsX9_undo rm_X9_undo (va_Pc [.ref a_this] (zB G [(a_this, .inr (9, [.int v_thrown, .long v_trace, .ref a_this_text, .int v_typed, .int v_next, .int v_token, .int v_place, .int v_value, .int v_fault, .int v_squares, .ref a_this_stars, .ref a_this_purses, .ref a_this_leases, .int v_starMany, .int v_tenants, .int v_draftSquares, .int v_draftStars, .int v_draftTenants, .int v_draftLeases, .ref a_this_s, .ref a_this_kept, .ref a_this_isKept, .ref a_this_offers, .int v_offerMany, .ref a_this_seen, .int v_seenMany])), (a_this_s, .inl (G.2.1, 100, .inl v_s))] sz)) (zQ G (some (.int R0)) [(a_this, .inr (9, [.int R1, .long v_trace, .ref a_this_text, .int v_typed, .int v_next, .int v_token, .int v_place, .int v_value, .int v_fault, .int v_squares, .ref a_this_stars, .ref a_this_purses, .ref a_this_leases, .int v_starMany, .int v_tenants, .int v_draftSquares, .int v_draftStars, .int v_draftTenants, .int v_draftLeases, .ref a_this_s, .ref a_this_kept, .ref a_this_isKept, .ref a_this_offers, .int v_offerMany, .ref a_this_seen, .int v_seenMany])), (a_this_s, .inl (G.2.1, 100, .inl R2))] (va_A [(a_this, .inr (9, [.int v_thrown, .long v_trace, .ref a_this_text, .int v_typed, .int v_next, .int v_token, .int v_place, .int v_value, .int v_fault, .int v_squares, .ref a_this_stars, .ref a_this_purses, .ref a_this_leases, .int v_starMany, .int v_tenants, .int v_draftSquares, .int v_draftStars, .int v_draftTenants, .int v_draftLeases, .ref a_this_s, .ref a_this_kept, .ref a_this_isKept, .ref a_this_offers, .int v_offerMany, .ref a_this_seen, .int v_seenMany])), (a_this_s, .inl (G.2.1, 100, .inl v_s))] sz)) 0 0 (va_A [(a_this, .inr (9, [.int v_thrown, .long v_trace, .ref a_this_text, .int v_typed, .int v_next, .int v_token, .int v_place, .int v_value, .int v_fault, .int v_squares, .ref a_this_stars, .ref a_this_purses, .ref a_this_leases, .int v_starMany, .int v_tenants, .int v_draftSquares, .int v_draftStars, .int v_draftTenants, .int v_draftLeases, .ref a_this_s, .ref a_this_kept, .ref a_this_isKept, .ref a_this_offers, .int v_offerMany, .ref a_this_seen, .int v_seenMany])), (a_this_s, .inl (G.2.1, 100, .inl v_s))] sz) := by
  refine Met.ofW (cc := cX9_undo) (maxL := 4) (ret := (some .int)) (by decide) rfl ?_
  intro p e s m args below meth c s₁ B hml hv
  obtain ⟨hargs, hsz, hP, hD0, hE⟩ := hv
  have hx := B.exec
  have hb := B.bytes
  have hr := B.returns
  have hts := atoms_spec (ws := wsX9_undo) B.pre
  have hown : s.vm.findClass RX9 = some m.cls := findClass_of_methodNamed B.named
  have hlocks := B.notSynchronized
  have hK := hE.1
  have hC : CallFix p m c cX9_undo 4 s args wsX9_undo RX9 := ⟨hx, hb, hml, hown, hts⟩
  have inX9 : ∀ w ∈ wsX90, w ∈ wsX9_undo := by decide +kernel
  have lk22 := hts (.fieldLink RX9 22 "SkyLeasesModel" "s" "[I") (by decide +kernel)
  have lk42 := hts (.fieldLink RX9 42 "SkyLeasesModel" "thrown" "I") (by decide +kernel)
  subst hsz
  have hD := hD0.self (sz := s.heap.size)
  generalize hAe : va_A [(a_this, .inr (9, [.int v_thrown, .long v_trace, .ref a_this_text, .int v_typed, .int v_next, .int v_token, .int v_place, .int v_value, .int v_fault, .int v_squares, .ref a_this_stars, .ref a_this_purses, .ref a_this_leases, .int v_starMany, .int v_tenants, .int v_draftSquares, .int v_draftStars, .int v_draftTenants, .int v_draftLeases, .ref a_this_s, .ref a_this_kept, .ref a_this_isKept, .ref a_this_offers, .int v_offerMany, .ref a_this_seen, .int v_seenMany])), (a_this_s, .inl (G.2.1, 100, .inl v_s))] s.heap.size = A at hD ⊢
  have hA : ∀ q : Nat, s.heap.size ≤ q → A q := fun q h => by rw [← hAe]; exact Or.inr h
  have hS : va_S A s.heap s.heap [] := va_S.rf
  have hP : va_P G.1 vwCl [(a_this, .inr (9, [.int v_thrown, .long v_trace, .ref a_this_text, .int v_typed, .int v_next, .int v_token, .int v_place, .int v_value, .int v_fault, .int v_squares, .ref a_this_stars, .ref a_this_purses, .ref a_this_leases, .int v_starMany, .int v_tenants, .int v_draftSquares, .int v_draftStars, .int v_draftTenants, .int v_draftLeases, .ref a_this_s, .ref a_this_kept, .ref a_this_isKept, .ref a_this_offers, .int v_offerMany, .ref a_this_seen, .int v_seenMany])), (a_this_s, .inl (G.2.1, 100, .inl v_s))] s.heap := hP
  have hl := lv_entry ([.ref a_this]) (n := 4) (Nat.le_of_ble_eq_true rfl)
  have hent : entryFrame m args 4 = F0 m 0 ((lg_sl ([.ref a_this]) ++ List.replicate (4 - (lg_sl ([.ref a_this])).length) Slot.unset).toArray) [] := by rw [hargs]; exact lg_entry_eq m [.ref a_this] 4
  refine W.eq hent ?_
  clear hent
  generalize (lg_sl ([.ref a_this]) ++ List.replicate (4 - (lg_sl ([.ref a_this])).length) Slot.unset).toArray = ls at hl ⊢
  have hl : lv_has ls 4 [(0, .ref a_this)] := hl
  generalize hQ : MQ below _ args s 0 0 _ = QQ
  change W p l e rm_X9_undo s m args below meth c s.heap [] 0 0 QQ _
  have j162 : ∀ (v_thrown : Int32), ∀ (v_s : (Nat → Int32)), ∀ (ls : Array Slot), lv_has ls 4 [(0, .ref a_this)] → ∀ (H : Heap) (locs : List Loc), va_P G.1 vwCl [(a_this, .inr (9, [.int v_thrown, .long v_trace, .ref a_this_text, .int v_typed, .int v_next, .int v_token, .int v_place, .int v_value, .int v_fault, .int v_squares, .ref a_this_stars, .ref a_this_purses, .ref a_this_leases, .int v_starMany, .int v_tenants, .int v_draftSquares, .int v_draftStars, .int v_draftTenants, .int v_draftLeases, .ref a_this_s, .ref a_this_kept, .ref a_this_isKept, .ref a_this_offers, .int v_offerMany, .ref a_this_seen, .int v_seenMany])), (a_this_s, .inl (G.2.1, 100, .inl v_s))] H → va_D A [(a_this, .inr (9, [.int v_thrown, .long v_trace, .ref a_this_text, .int v_typed, .int v_next, .int v_token, .int v_place, .int v_value, .int v_fault, .int v_squares, .ref a_this_stars, .ref a_this_purses, .ref a_this_leases, .int v_starMany, .int v_tenants, .int v_draftSquares, .int v_draftStars, .int v_draftTenants, .int v_draftLeases, .ref a_this_s, .ref a_this_kept, .ref a_this_isKept, .ref a_this_offers, .int v_offerMany, .ref a_this_seen, .int v_seenMany])), (a_this_s, .inl (G.2.1, 100, .inl v_s))] → va_S A s.heap H locs → f_X9_undo_b162 v_thrown v_s = some (R0, R1, R2) → W p l e rm_X9_undo s m args below meth c H locs 0 0 QQ (F0 m 162 ls []) := by
    intro v_thrown v_s ls hl H locs hP hD hS hf
    unfold f_X9_undo_b162 at hf
    refine lv_aload_n hx hb dX9_undo_162 rfl (lv_at hl 0 rfl) ?_
    refine va_get (D := G.1) (ci := 9) (v := .ref a_this_s) (C := RX9) (T := TX9) (N := 26) hx hb hts inX9 hown hK hP 0 rfl rfl 19 (by decide) lk22 (fun _ h9 => h9) rfl dX9_undo_163 ?_
    refine lv_bipush (v := (6 : Int32)) hx hb dX9_undo_166 (by decide) ?_
    obtain ⟨hg27, hf⟩ := gd_some hf
    refine va_iald hx hb hK hP 1 0 rfl rfl (inB_in hg27) dX9_undo_168 ?_
    obtain ⟨hr0, hr1, hr2⟩ := so3 hf
    subst hr0
    subst hr1
    subst hr2
    rw [← hQ]
    exact W.iret (v := (v_s ((6 : Int32)).toNatClampNeg)) hx hb hr (fun t ht hW => ⟨⟨rfl, by rw [ht]; exact hP⟩, hS.F ht⟩) hS.2.2 dX9_undo_169
  have j117 : ∀ (x1 : Int32), ∀ (x2 : Int32), ∀ (v_thrown : Int32), ∀ (nn : Nat), ∀ (x3 : Int32), ∀ (v_s : (Nat → Int32)), ∀ (ls : Array Slot), lv_has ls 4 [(0, .ref a_this), (1, .int x1), (2, .int x2), (3, .int x3)] → ∀ (H : Heap) (locs : List Loc), va_P G.1 vwCl [(a_this, .inr (9, [.int v_thrown, .long v_trace, .ref a_this_text, .int v_typed, .int v_next, .int v_token, .int v_place, .int v_value, .int v_fault, .int v_squares, .ref a_this_stars, .ref a_this_purses, .ref a_this_leases, .int v_starMany, .int v_tenants, .int v_draftSquares, .int v_draftStars, .int v_draftTenants, .int v_draftLeases, .ref a_this_s, .ref a_this_kept, .ref a_this_isKept, .ref a_this_offers, .int v_offerMany, .ref a_this_seen, .int v_seenMany])), (a_this_s, .inl (G.2.1, 100, .inl v_s))] H → va_D A [(a_this, .inr (9, [.int v_thrown, .long v_trace, .ref a_this_text, .int v_typed, .int v_next, .int v_token, .int v_place, .int v_value, .int v_fault, .int v_squares, .ref a_this_stars, .ref a_this_purses, .ref a_this_leases, .int v_starMany, .int v_tenants, .int v_draftSquares, .int v_draftStars, .int v_draftTenants, .int v_draftLeases, .ref a_this_s, .ref a_this_kept, .ref a_this_isKept, .ref a_this_offers, .int v_offerMany, .ref a_this_seen, .int v_seenMany])), (a_this_s, .inl (G.2.1, 100, .inl v_s))] → va_S A s.heap H locs → f_X9_undo_b117 x1 x2 v_thrown nn x3 v_s = some (R0, R1, R2) → W p l e rm_X9_undo s m args below meth c H locs 0 0 QQ (F0 m 117 ls []) := by
    intro x1 x2 v_thrown
    intro nn
    induction nn with
    | zero =>
      intro x3 v_s ls hl H locs hP hD hS hf
      rw [f_X9_undo_b117] at hf
      cases hf
    | succ n117 ih =>
      intro x3 v_s ls hl H locs hP hD hS hf
      rw [f_X9_undo_b117] at hf
      refine lv_iload_n hx hb dX9_undo_117 rfl (lv_at hl 3 rfl) ?_
      refine lv_iconst (v := (5 : Int32)) hx hb dX9_undo_118 (by decide) ?_
      refine lv_icmp_ge (tgt := 151) hx hb dX9_undo_119 (by decide) (fun hc28 => ?_) (fun hc28 => ?_)
      · have hf := if_t hf hc28
        refine lv_aload_n hx hb dX9_undo_151 rfl (lv_at hl 0 rfl) ?_
        refine va_get (D := G.1) (ci := 9) (v := .ref a_this_s) (C := RX9) (T := TX9) (N := 26) hx hb hts inX9 hown hK hP 0 rfl rfl 19 (by decide) lk22 (fun _ h9 => h9) rfl dX9_undo_152 ?_
        refine lv_bipush (v := (6 : Int32)) hx hb dX9_undo_155 (by decide) ?_
        refine lv_dup2_11 hx hb dX9_undo_157 rfl rfl ?_
        obtain ⟨hg29, hf⟩ := gd_some hf
        refine va_iald hx hb hK hP 1 0 rfl rfl (inB_in hg29) dX9_undo_158 ?_
        refine lv_iconst (v := (1 : Int32)) hx hb dX9_undo_159 (by decide) ?_
        refine lv_iadd hx hb dX9_undo_160 ?_
        obtain ⟨hg30, hf⟩ := gd_some hf
        refine z_iast hx hb hK hP hD hS 1 0 rfl rfl (inB_in hg30) dX9_undo_161 (fun gg => [(a_this, .inr (9, [.int v_thrown, .long v_trace, .ref a_this_text, .int v_typed, .int v_next, .int v_token, .int v_place, .int v_value, .int v_fault, .int v_squares, .ref a_this_stars, .ref a_this_purses, .ref a_this_leases, .int v_starMany, .int v_tenants, .int v_draftSquares, .int v_draftStars, .int v_draftTenants, .int v_draftLeases, .ref a_this_s, .ref a_this_kept, .ref a_this_isKept, .ref a_this_offers, .int v_offerMany, .ref a_this_seen, .int v_seenMany])), (a_this_s, .inl (G.2.1, 100, .inl gg))]) (fun gg => rfl) (fun y31 H locs ey31 hP hD hS => ?_)
        have hf := nm_to hf ey31
        have hP : va_P G.1 vwCl [(a_this, .inr (9, [.int v_thrown, .long v_trace, .ref a_this_text, .int v_typed, .int v_next, .int v_token, .int v_place, .int v_value, .int v_fault, .int v_squares, .ref a_this_stars, .ref a_this_purses, .ref a_this_leases, .int v_starMany, .int v_tenants, .int v_draftSquares, .int v_draftStars, .int v_draftTenants, .int v_draftLeases, .ref a_this_s, .ref a_this_kept, .ref a_this_isKept, .ref a_this_offers, .int v_offerMany, .ref a_this_seen, .int v_seenMany])), (a_this_s, .inl (G.2.1, 100, .inl y31))] H := hP
        have hD : va_D A [(a_this, .inr (9, [.int v_thrown, .long v_trace, .ref a_this_text, .int v_typed, .int v_next, .int v_token, .int v_place, .int v_value, .int v_fault, .int v_squares, .ref a_this_stars, .ref a_this_purses, .ref a_this_leases, .int v_starMany, .int v_tenants, .int v_draftSquares, .int v_draftStars, .int v_draftTenants, .int v_draftLeases, .ref a_this_s, .ref a_this_kept, .ref a_this_isKept, .ref a_this_offers, .int v_offerMany, .ref a_this_seen, .int v_seenMany])), (a_this_s, .inl (G.2.1, 100, .inl y31))] := hD
        exact j162 (v_thrown) (y31) ls (lv_sub hl [0] rfl) _ _ hP hD hS hf
      · have hf := if_f hf hc28
        refine lv_aload_n hx hb dX9_undo_122 rfl (lv_at hl 0 rfl) ?_
        refine va_get (D := G.1) (ci := 9) (v := .ref a_this_s) (C := RX9) (T := TX9) (N := 26) hx hb hts inX9 hown hK hP 0 rfl rfl 19 (by decide) lk22 (fun _ h9 => h9) rfl dX9_undo_123 ?_
        refine lv_bipush (v := (7 : Int32)) hx hb dX9_undo_126 (by decide) ?_
        refine lv_iconst (v := (5 : Int32)) hx hb dX9_undo_128 (by decide) ?_
        refine lv_iload_n hx hb dX9_undo_129 rfl (lv_at hl 2 rfl) ?_
        refine lv_imul hx hb dX9_undo_130 ?_
        refine lv_iadd hx hb dX9_undo_131 ?_
        refine lv_iload_n hx hb dX9_undo_132 rfl (lv_at hl 3 rfl) ?_
        refine lv_iadd hx hb dX9_undo_133 ?_
        refine lv_aload_n hx hb dX9_undo_134 rfl (lv_at hl 0 rfl) ?_
        refine va_get (D := G.1) (ci := 9) (v := .ref a_this_s) (C := RX9) (T := TX9) (N := 26) hx hb hts inX9 hown hK hP 0 rfl rfl 19 (by decide) lk22 (fun _ h9 => h9) rfl dX9_undo_135 ?_
        refine lv_iload_n hx hb dX9_undo_138 rfl (lv_at hl 1 rfl) ?_
        refine lv_iconst (v := (2 : Int32)) hx hb dX9_undo_139 (by decide) ?_
        refine lv_iadd hx hb dX9_undo_140 ?_
        refine lv_iload_n hx hb dX9_undo_141 rfl (lv_at hl 3 rfl) ?_
        refine lv_iadd hx hb dX9_undo_142 ?_
        obtain ⟨hg32, hf⟩ := gd_some hf
        refine va_iald hx hb hK hP 1 0 rfl rfl (inB_in hg32) dX9_undo_143 ?_
        obtain ⟨hg33, hf⟩ := gd_some hf
        refine z_iast hx hb hK hP hD hS 1 0 rfl rfl (inB_in hg33) dX9_undo_144 (fun gg => [(a_this, .inr (9, [.int v_thrown, .long v_trace, .ref a_this_text, .int v_typed, .int v_next, .int v_token, .int v_place, .int v_value, .int v_fault, .int v_squares, .ref a_this_stars, .ref a_this_purses, .ref a_this_leases, .int v_starMany, .int v_tenants, .int v_draftSquares, .int v_draftStars, .int v_draftTenants, .int v_draftLeases, .ref a_this_s, .ref a_this_kept, .ref a_this_isKept, .ref a_this_offers, .int v_offerMany, .ref a_this_seen, .int v_seenMany])), (a_this_s, .inl (G.2.1, 100, .inl gg))]) (fun gg => rfl) (fun y34 H locs ey34 hP hD hS => ?_)
        have hf := nm_to hf ey34
        have hP : va_P G.1 vwCl [(a_this, .inr (9, [.int v_thrown, .long v_trace, .ref a_this_text, .int v_typed, .int v_next, .int v_token, .int v_place, .int v_value, .int v_fault, .int v_squares, .ref a_this_stars, .ref a_this_purses, .ref a_this_leases, .int v_starMany, .int v_tenants, .int v_draftSquares, .int v_draftStars, .int v_draftTenants, .int v_draftLeases, .ref a_this_s, .ref a_this_kept, .ref a_this_isKept, .ref a_this_offers, .int v_offerMany, .ref a_this_seen, .int v_seenMany])), (a_this_s, .inl (G.2.1, 100, .inl y34))] H := hP
        have hD : va_D A [(a_this, .inr (9, [.int v_thrown, .long v_trace, .ref a_this_text, .int v_typed, .int v_next, .int v_token, .int v_place, .int v_value, .int v_fault, .int v_squares, .ref a_this_stars, .ref a_this_purses, .ref a_this_leases, .int v_starMany, .int v_tenants, .int v_draftSquares, .int v_draftStars, .int v_draftTenants, .int v_draftLeases, .ref a_this_s, .ref a_this_kept, .ref a_this_isKept, .ref a_this_offers, .int v_offerMany, .ref a_this_seen, .int v_seenMany])), (a_this_s, .inl (G.2.1, 100, .inl y34))] := hD
        refine lv_iinc (v := (x3 + (1 : Int32))) (lv' := [(3, .int (x3 + (1 : Int32))), (0, .ref a_this), (1, .int x1), (2, .int x2)]) hx hb dX9_undo_145 hl (k := 3) rfl rfl (by decide) rfl (fun ls hl => ?_)
        refine lv_goto (tgt := 117) hx hb dX9_undo_148 (by decide) ?_
        exact ih ((x3 + (1 : Int32))) (y34) ls (lv_sub hl [1, 2, 3, 0] rfl) _ _ hP hD hS hf
  have j82 : ∀ (x1 : Int32), ∀ (x2 : Int32), ∀ (v_thrown : Int32), ∀ (nn : Nat), ∀ (x3 : Int32), ∀ (v_s : (Nat → Int32)), ∀ (ls : Array Slot), lv_has ls 4 [(0, .ref a_this), (1, .int x1), (2, .int x2), (3, .int x3)] → ∀ (H : Heap) (locs : List Loc), va_P G.1 vwCl [(a_this, .inr (9, [.int v_thrown, .long v_trace, .ref a_this_text, .int v_typed, .int v_next, .int v_token, .int v_place, .int v_value, .int v_fault, .int v_squares, .ref a_this_stars, .ref a_this_purses, .ref a_this_leases, .int v_starMany, .int v_tenants, .int v_draftSquares, .int v_draftStars, .int v_draftTenants, .int v_draftLeases, .ref a_this_s, .ref a_this_kept, .ref a_this_isKept, .ref a_this_offers, .int v_offerMany, .ref a_this_seen, .int v_seenMany])), (a_this_s, .inl (G.2.1, 100, .inl v_s))] H → va_D A [(a_this, .inr (9, [.int v_thrown, .long v_trace, .ref a_this_text, .int v_typed, .int v_next, .int v_token, .int v_place, .int v_value, .int v_fault, .int v_squares, .ref a_this_stars, .ref a_this_purses, .ref a_this_leases, .int v_starMany, .int v_tenants, .int v_draftSquares, .int v_draftStars, .int v_draftTenants, .int v_draftLeases, .ref a_this_s, .ref a_this_kept, .ref a_this_isKept, .ref a_this_offers, .int v_offerMany, .ref a_this_seen, .int v_seenMany])), (a_this_s, .inl (G.2.1, 100, .inl v_s))] → va_S A s.heap H locs → f_X9_undo_b82 x1 x2 v_thrown nn x3 v_s = some (R0, R1, R2) → W p l e rm_X9_undo s m args below meth c H locs 0 0 QQ (F0 m 82 ls []) := by
    intro x1 x2 v_thrown
    intro nn
    induction nn with
    | zero =>
      intro x3 v_s ls hl H locs hP hD hS hf
      rw [f_X9_undo_b82] at hf
      cases hf
    | succ n82 ih =>
      intro x3 v_s ls hl H locs hP hD hS hf
      rw [f_X9_undo_b82] at hf
      refine lv_iload_n hx hb dX9_undo_82 rfl (lv_at hl 3 rfl) ?_
      refine lv_iconst (v := (5 : Int32)) hx hb dX9_undo_83 (by decide) ?_
      refine lv_iload_n hx hb dX9_undo_84 rfl (lv_at hl 2 rfl) ?_
      refine lv_imul hx hb dX9_undo_85 ?_
      refine lv_icmp_lt (tgt := 115) hx hb dX9_undo_86 (by decide) (fun hc35 => ?_) (fun hc35 => ?_)
      · have hf := if_t hf hc35
        refine lv_iconst (v := (0 : Int32)) hx hb dX9_undo_115 (by decide) ?_
        refine lv_istore_n (lv' := [(3, .int (0 : Int32)), (0, .ref a_this), (1, .int x1), (2, .int x2)]) hx hb dX9_undo_116 rfl hl (by decide) rfl (fun ls hl => ?_)
        exact j117 (x1) (x2) (v_thrown) zF ((0 : Int32)) (v_s) ls (lv_sub hl [1, 2, 3, 0] rfl) _ _ hP hD hS hf
      · have hf := if_f hf hc35
        refine lv_aload_n hx hb dX9_undo_89 rfl (lv_at hl 0 rfl) ?_
        refine va_get (D := G.1) (ci := 9) (v := .ref a_this_s) (C := RX9) (T := TX9) (N := 26) hx hb hts inX9 hown hK hP 0 rfl rfl 19 (by decide) lk22 (fun _ h9 => h9) rfl dX9_undo_90 ?_
        refine lv_bipush (v := (7 : Int32)) hx hb dX9_undo_93 (by decide) ?_
        refine lv_iload_n hx hb dX9_undo_95 rfl (lv_at hl 3 rfl) ?_
        refine lv_iadd hx hb dX9_undo_96 ?_
        refine lv_iconst (v := (5 : Int32)) hx hb dX9_undo_97 (by decide) ?_
        refine lv_iadd hx hb dX9_undo_98 ?_
        refine lv_aload_n hx hb dX9_undo_99 rfl (lv_at hl 0 rfl) ?_
        refine va_get (D := G.1) (ci := 9) (v := .ref a_this_s) (C := RX9) (T := TX9) (N := 26) hx hb hts inX9 hown hK hP 0 rfl rfl 19 (by decide) lk22 (fun _ h9 => h9) rfl dX9_undo_100 ?_
        refine lv_bipush (v := (7 : Int32)) hx hb dX9_undo_103 (by decide) ?_
        refine lv_iload_n hx hb dX9_undo_105 rfl (lv_at hl 3 rfl) ?_
        refine lv_iadd hx hb dX9_undo_106 ?_
        obtain ⟨hg36, hf⟩ := gd_some hf
        refine va_iald hx hb hK hP 1 0 rfl rfl (inB_in hg36) dX9_undo_107 ?_
        obtain ⟨hg37, hf⟩ := gd_some hf
        refine z_iast hx hb hK hP hD hS 1 0 rfl rfl (inB_in hg37) dX9_undo_108 (fun gg => [(a_this, .inr (9, [.int v_thrown, .long v_trace, .ref a_this_text, .int v_typed, .int v_next, .int v_token, .int v_place, .int v_value, .int v_fault, .int v_squares, .ref a_this_stars, .ref a_this_purses, .ref a_this_leases, .int v_starMany, .int v_tenants, .int v_draftSquares, .int v_draftStars, .int v_draftTenants, .int v_draftLeases, .ref a_this_s, .ref a_this_kept, .ref a_this_isKept, .ref a_this_offers, .int v_offerMany, .ref a_this_seen, .int v_seenMany])), (a_this_s, .inl (G.2.1, 100, .inl gg))]) (fun gg => rfl) (fun y38 H locs ey38 hP hD hS => ?_)
        have hf := nm_to hf ey38
        have hP : va_P G.1 vwCl [(a_this, .inr (9, [.int v_thrown, .long v_trace, .ref a_this_text, .int v_typed, .int v_next, .int v_token, .int v_place, .int v_value, .int v_fault, .int v_squares, .ref a_this_stars, .ref a_this_purses, .ref a_this_leases, .int v_starMany, .int v_tenants, .int v_draftSquares, .int v_draftStars, .int v_draftTenants, .int v_draftLeases, .ref a_this_s, .ref a_this_kept, .ref a_this_isKept, .ref a_this_offers, .int v_offerMany, .ref a_this_seen, .int v_seenMany])), (a_this_s, .inl (G.2.1, 100, .inl y38))] H := hP
        have hD : va_D A [(a_this, .inr (9, [.int v_thrown, .long v_trace, .ref a_this_text, .int v_typed, .int v_next, .int v_token, .int v_place, .int v_value, .int v_fault, .int v_squares, .ref a_this_stars, .ref a_this_purses, .ref a_this_leases, .int v_starMany, .int v_tenants, .int v_draftSquares, .int v_draftStars, .int v_draftTenants, .int v_draftLeases, .ref a_this_s, .ref a_this_kept, .ref a_this_isKept, .ref a_this_offers, .int v_offerMany, .ref a_this_seen, .int v_seenMany])), (a_this_s, .inl (G.2.1, 100, .inl y38))] := hD
        refine lv_iinc (v := (x3 + (-1 : Int32))) (lv' := [(3, .int (x3 + (-1 : Int32))), (0, .ref a_this), (1, .int x1), (2, .int x2)]) hx hb dX9_undo_109 hl (k := 3) rfl rfl (by decide) rfl (fun ls hl => ?_)
        refine lv_goto (tgt := 82) hx hb dX9_undo_112 (by decide) ?_
        exact ih ((x3 + (-1 : Int32))) (y38) ls (lv_sub hl [1, 2, 3, 0] rfl) _ _ hP hD hS hf
  have hSH := hS
  unfold f_X9_undo at hf
  refine lv_aload_n hx hb dX9_undo_0 rfl (lv_at hl 0 rfl) ?_
  refine lv_iconst (v := (0 : Int32)) hx hb dX9_undo_1 (by decide) ?_
  refine va_put (D := G.1) (ci := 9) (v := .int (0 : Int32)) (ty := .int) (C := RX9) (T := TX9) (N := 26) hx hb hts inX9 tyX9 tyX9_ok nmX9 hown hK hP hD hS 0 rfl rfl 0 (by decide) lk42 (fun _ h9 => h9) rfl (by decide +kernel) rfl rfl (Nat.le_of_ble_eq_true rfl) dX9_undo_2 (fun H locs hP hD hS => ?_)
  have hP : va_P G.1 vwCl [(a_this, .inr (9, [.int (0 : Int32), .long v_trace, .ref a_this_text, .int v_typed, .int v_next, .int v_token, .int v_place, .int v_value, .int v_fault, .int v_squares, .ref a_this_stars, .ref a_this_purses, .ref a_this_leases, .int v_starMany, .int v_tenants, .int v_draftSquares, .int v_draftStars, .int v_draftTenants, .int v_draftLeases, .ref a_this_s, .ref a_this_kept, .ref a_this_isKept, .ref a_this_offers, .int v_offerMany, .ref a_this_seen, .int v_seenMany])), (a_this_s, .inl (G.2.1, 100, .inl v_s))] H := hP
  have hD : va_D A [(a_this, .inr (9, [.int (0 : Int32), .long v_trace, .ref a_this_text, .int v_typed, .int v_next, .int v_token, .int v_place, .int v_value, .int v_fault, .int v_squares, .ref a_this_stars, .ref a_this_purses, .ref a_this_leases, .int v_starMany, .int v_tenants, .int v_draftSquares, .int v_draftStars, .int v_draftTenants, .int v_draftLeases, .ref a_this_s, .ref a_this_kept, .ref a_this_isKept, .ref a_this_offers, .int v_offerMany, .ref a_this_seen, .int v_seenMany])), (a_this_s, .inl (G.2.1, 100, .inl v_s))] := hD
  refine lv_aload_n hx hb dX9_undo_5 rfl (lv_at hl 0 rfl) ?_
  refine va_get (D := G.1) (ci := 9) (v := .ref a_this_s) (C := RX9) (T := TX9) (N := 26) hx hb hts inX9 hown hK hP 0 rfl rfl 19 (by decide) lk22 (fun _ h9 => h9) rfl dX9_undo_6 ?_
  refine lv_bipush (v := (57 : Int32)) hx hb dX9_undo_9 (by decide) ?_
  obtain ⟨hg39, hf⟩ := gd_some hf
  refine va_iald hx hb hK hP 1 0 rfl rfl (inB_in hg39) dX9_undo_11 ?_
  refine lv_if_ne (tgt := 18) hx hb dX9_undo_12 (by decide) (fun hc40 => ?_) (fun hc40 => ?_)
  · have hf := if_f hf hc40
    refine lv_aload_n hx hb dX9_undo_18 rfl (lv_at hl 0 rfl) ?_
    refine va_get (D := G.1) (ci := 9) (v := .ref a_this_s) (C := RX9) (T := TX9) (N := 26) hx hb hts inX9 hown hK hP 0 rfl rfl 19 (by decide) lk22 (fun _ h9 => h9) rfl dX9_undo_19 ?_
    refine lv_bipush (v := (57 : Int32)) hx hb dX9_undo_22 (by decide) ?_
    refine lv_dup2_11 hx hb dX9_undo_24 rfl rfl ?_
    obtain ⟨hg41, hf⟩ := gd_some hf
    refine va_iald hx hb hK hP 1 0 rfl rfl (inB_in hg41) dX9_undo_25 ?_
    refine lv_iconst (v := (1 : Int32)) hx hb dX9_undo_26 (by decide) ?_
    refine lv_isub hx hb dX9_undo_27 ?_
    obtain ⟨hg42, hf⟩ := gd_some hf
    refine z_iast hx hb hK hP hD hS 1 0 rfl rfl (inB_in hg42) dX9_undo_28 (fun gg => [(a_this, .inr (9, [.int (0 : Int32), .long v_trace, .ref a_this_text, .int v_typed, .int v_next, .int v_token, .int v_place, .int v_value, .int v_fault, .int v_squares, .ref a_this_stars, .ref a_this_purses, .ref a_this_leases, .int v_starMany, .int v_tenants, .int v_draftSquares, .int v_draftStars, .int v_draftTenants, .int v_draftLeases, .ref a_this_s, .ref a_this_kept, .ref a_this_isKept, .ref a_this_offers, .int v_offerMany, .ref a_this_seen, .int v_seenMany])), (a_this_s, .inl (G.2.1, 100, .inl gg))]) (fun gg => rfl) (fun y43 H locs ey43 hP hD hS => ?_)
    have hf := nm_to hf ey43
    have hP : va_P G.1 vwCl [(a_this, .inr (9, [.int (0 : Int32), .long v_trace, .ref a_this_text, .int v_typed, .int v_next, .int v_token, .int v_place, .int v_value, .int v_fault, .int v_squares, .ref a_this_stars, .ref a_this_purses, .ref a_this_leases, .int v_starMany, .int v_tenants, .int v_draftSquares, .int v_draftStars, .int v_draftTenants, .int v_draftLeases, .ref a_this_s, .ref a_this_kept, .ref a_this_isKept, .ref a_this_offers, .int v_offerMany, .ref a_this_seen, .int v_seenMany])), (a_this_s, .inl (G.2.1, 100, .inl y43))] H := hP
    have hD : va_D A [(a_this, .inr (9, [.int (0 : Int32), .long v_trace, .ref a_this_text, .int v_typed, .int v_next, .int v_token, .int v_place, .int v_value, .int v_fault, .int v_squares, .ref a_this_stars, .ref a_this_purses, .ref a_this_leases, .int v_starMany, .int v_tenants, .int v_draftSquares, .int v_draftStars, .int v_draftTenants, .int v_draftLeases, .ref a_this_s, .ref a_this_kept, .ref a_this_isKept, .ref a_this_offers, .int v_offerMany, .ref a_this_seen, .int v_seenMany])), (a_this_s, .inl (G.2.1, 100, .inl y43))] := hD
    refine lv_bipush (v := (58 : Int32)) hx hb dX9_undo_29 (by decide) ?_
    refine lv_bipush (v := (7 : Int32)) hx hb dX9_undo_31 (by decide) ?_
    refine lv_aload_n hx hb dX9_undo_33 rfl (lv_at hl 0 rfl) ?_
    refine va_get (D := G.1) (ci := 9) (v := .ref a_this_s) (C := RX9) (T := TX9) (N := 26) hx hb hts inX9 hown hK hP 0 rfl rfl 19 (by decide) lk22 (fun _ h9 => h9) rfl dX9_undo_34 ?_
    refine lv_bipush (v := (57 : Int32)) hx hb dX9_undo_37 (by decide) ?_
    obtain ⟨hg44, hf⟩ := gd_some hf
    refine va_iald hx hb hK hP 1 0 rfl rfl (inB_in hg44) dX9_undo_39 ?_
    refine lv_imul hx hb dX9_undo_40 ?_
    refine lv_iadd hx hb dX9_undo_41 ?_
    refine lv_topi (fun y45 ey45 => ?_)
    have hf := nm_to hf ey45
    refine lv_istore_n (lv' := [(1, .int y45), (0, .ref a_this)]) hx hb dX9_undo_42 rfl hl (by decide) rfl (fun ls hl => ?_)
    refine lv_aload_n hx hb dX9_undo_43 rfl (lv_at hl 1 rfl) ?_
    refine va_get (D := G.1) (ci := 9) (v := .ref a_this_s) (C := RX9) (T := TX9) (N := 26) hx hb hts inX9 hown hK hP 0 rfl rfl 19 (by decide) lk22 (fun _ h9 => h9) rfl dX9_undo_44 ?_
    refine lv_iload_n hx hb dX9_undo_47 rfl (lv_at hl 0 rfl) ?_
    refine lv_iconst (v := (1 : Int32)) hx hb dX9_undo_48 (by decide) ?_
    refine lv_iadd hx hb dX9_undo_49 ?_
    obtain ⟨hg46, hf⟩ := gd_some hf
    refine va_iald hx hb hK hP 1 0 rfl rfl (inB_in hg46) dX9_undo_50 ?_
    refine lv_topi (fun y47 ey47 => ?_)
    have hf := nm_to hf ey47
    refine lv_istore_n (lv' := [(2, .int y47), (1, .int y45), (0, .ref a_this)]) hx hb dX9_undo_51 rfl hl (by decide) rfl (fun ls hl => ?_)
    refine lv_aload_n hx hb dX9_undo_52 rfl (lv_at hl 2 rfl) ?_
    refine va_get (D := G.1) (ci := 9) (v := .ref a_this_s) (C := RX9) (T := TX9) (N := 26) hx hb hts inX9 hown hK hP 0 rfl rfl 19 (by decide) lk22 (fun _ h9 => h9) rfl dX9_undo_53 ?_
    refine lv_iload_n hx hb dX9_undo_56 rfl (lv_at hl 1 rfl) ?_
    obtain ⟨hg48, hf⟩ := gd_some hf
    refine va_iald hx hb hK hP 1 0 rfl rfl (inB_in hg48) dX9_undo_57 ?_
    refine lv_iconst (v := (1 : Int32)) hx hb dX9_undo_58 (by decide) ?_
    refine lv_icmp_ne (tgt := 70) hx hb dX9_undo_59 (by decide) (fun hc49 => ?_) (fun hc49 => ?_)
    · have hf := if_f hf hc49
      refine lv_iconst (v := (5 : Int32)) hx hb dX9_undo_70 (by decide) ?_
      refine lv_aload_n hx hb dX9_undo_71 rfl (lv_at hl 2 rfl) ?_
      refine va_get (D := G.1) (ci := 9) (v := .ref a_this_s) (C := RX9) (T := TX9) (N := 26) hx hb hts inX9 hown hK hP 0 rfl rfl 19 (by decide) lk22 (fun _ h9 => h9) rfl dX9_undo_72 ?_
      refine lv_bipush (v := (6 : Int32)) hx hb dX9_undo_75 (by decide) ?_
      obtain ⟨hg50, hf⟩ := gd_some hf
      refine va_iald hx hb hK hP 1 0 rfl rfl (inB_in hg50) dX9_undo_77 ?_
      refine lv_imul hx hb dX9_undo_78 ?_
      refine lv_iconst (v := (1 : Int32)) hx hb dX9_undo_79 (by decide) ?_
      refine lv_isub hx hb dX9_undo_80 ?_
      refine lv_topi (fun y51 ey51 => ?_)
      have hf := nm_to hf ey51
      refine lv_istore_n (lv' := [(3, .int y51), (2, .int y47), (1, .int y45), (0, .ref a_this)]) hx hb dX9_undo_81 rfl hl (by decide) rfl (fun ls hl => ?_)
      exact j82 (y45) (y47) ((0 : Int32)) zF (y51) (y43) ls (lv_sub hl [3, 2, 1, 0] rfl) _ _ hP hD hS hf
    · have hf := if_t hf hc49
      refine lv_aload_n hx hb dX9_undo_62 rfl (lv_at hl 2 rfl) ?_
      refine lv_iload_n hx hb dX9_undo_63 rfl (lv_at hl 0 rfl) ?_
      obtain ⟨w52, hu, hf⟩ := bd1_some hf
      refine zWn (wr := []) (ws2 := [(a_this, .inr (9, [.int (0 : Int32), .long v_trace, .ref a_this_text, .int v_typed, .int v_next, .int v_token, .int v_place, .int v_value, .int v_fault, .int v_squares, .ref a_this_stars, .ref a_this_purses, .ref a_this_leases, .int v_starMany, .int v_tenants, .int v_draftSquares, .int v_draftStars, .int v_draftTenants, .int v_draftLeases, .ref a_this_s, .ref a_this_kept, .ref a_this_isKept, .ref a_this_offers, .int v_offerMany, .ref a_this_seen, .int v_seenMany])), (a_this_s, .inl (G.2.1, 100, .inl w52))]) (va_runV (As := [.int y47]) (rest := []) hC (c_X9_goesOut l G _ a_this a_this_s a_this_text a_this_stars a_this_purses a_this_leases a_this_kept a_this_isKept a_this_offers a_this_seen ((0 : Int32)) (v_trace) (v_typed) (v_next) (v_token) (v_place) (v_value) (v_fault) (v_squares) (v_starMany) (v_tenants) (v_draftSquares) (v_draftStars) (v_draftTenants) (v_draftLeases) (v_offerMany) (v_seenMany) (y43) (y47) w52 hu) (cwV 1 hts gX9_undo_X9_goesOut rfl rfl rfl hd_X9_goesOut ⟨(Nat.le_of_ble_eq_true rfl), (Nat.le_of_ble_eq_true rfl)⟩) (zPVw hE hP hD [0, 1] rfl rfl 0 rfl rfl) rfl rfl hl.1 rfl (lv_room (Nat.le_of_ble_eq_true rfl)) dX9_undo_64 ⟨Nat.zero_le _, Nat.zero_le _⟩) hP hD hS hA [0, 1] [] [0, 1] rfl rfl rfl rfl (by decide) rfl rfl rfl (fun H locs hP hD hS => ?_)
      refine lv_goto (tgt := 162) hx hb dX9_undo_67 (by decide) ?_
      exact j162 ((0 : Int32)) (w52) ls (lv_sub hl [2] rfl) _ _ hP hD hS hf
  · have hf := if_t hf hc40
    refine lv_bipush (v := (-2 : Int32)) hx hb dX9_undo_15 (by decide) ?_
    obtain ⟨hr0, hr1, hr2⟩ := so3 hf
    subst hr0
    subst hr1
    subst hr2
    rw [← hQ]
    exact W.iret (v := (-2 : Int32)) hx hb hr (fun t ht hW => ⟨⟨rfl, by rw [ht]; exact hP⟩, hS.F ht⟩) hS.2.2 dX9_undo_17
def f_X9_lot  (v_thrown : Int32) (v_s : (Nat → Int32)) (g1 : Int32) : Option (Int32 × Int32 × (Nat → Int32)) := gd (inB (1 : Int32) 100) (gd (inB (1 : Int32) 100) (nm (upd v_s ((1 : Int32)).toNatClampNeg g1) fun y6 => some ((v_s ((1 : Int32)).toNatClampNeg), (0 : Int32), y6)))
abbrev rm_X9_lot : Room := { frames := 0, cells := 0, slots := 0, locals := 0 }
set_option maxHeartbeats 4000000 in
set_option maxRecDepth 100000 in
theorem c_X9_lot (l : Launch) (G : zG) (sz : Nat) (a_this : Nat) (a_this_s : Nat) (a_this_text : Nat) (a_this_stars : Nat) (a_this_purses : Nat) (a_this_leases : Nat) (a_this_kept : Nat) (a_this_isKept : Nat) (a_this_offers : Nat) (a_this_seen : Nat) (v_thrown : Int32) (v_trace : Int64) (v_typed : Int32) (v_next : Int32) (v_token : Int32) (v_place : Int32) (v_value : Int32) (v_fault : Int32) (v_squares : Int32) (v_starMany : Int32) (v_tenants : Int32) (v_draftSquares : Int32) (v_draftStars : Int32) (v_draftTenants : Int32) (v_draftLeases : Int32) (v_offerMany : Int32) (v_seenMany : Int32) (v_s : (Nat → Int32)) (g1 : Int32) (R0 : Int32) (R1 : Int32) (R2 : (Nat → Int32)) (hf : f_X9_lot v_thrown v_s g1 = some (R0, R1, R2)) : Met l yX9_lot wsX9_lot rm_X9_lot (va_Pc [.ref a_this, .int g1] (zB G [(a_this, .inr (9, [.int v_thrown, .long v_trace, .ref a_this_text, .int v_typed, .int v_next, .int v_token, .int v_place, .int v_value, .int v_fault, .int v_squares, .ref a_this_stars, .ref a_this_purses, .ref a_this_leases, .int v_starMany, .int v_tenants, .int v_draftSquares, .int v_draftStars, .int v_draftTenants, .int v_draftLeases, .ref a_this_s, .ref a_this_kept, .ref a_this_isKept, .ref a_this_offers, .int v_offerMany, .ref a_this_seen, .int v_seenMany])), (a_this_s, .inl (G.2.1, 100, .inl v_s))] sz)) (zQ G (some (.int R0)) [(a_this, .inr (9, [.int R1, .long v_trace, .ref a_this_text, .int v_typed, .int v_next, .int v_token, .int v_place, .int v_value, .int v_fault, .int v_squares, .ref a_this_stars, .ref a_this_purses, .ref a_this_leases, .int v_starMany, .int v_tenants, .int v_draftSquares, .int v_draftStars, .int v_draftTenants, .int v_draftLeases, .ref a_this_s, .ref a_this_kept, .ref a_this_isKept, .ref a_this_offers, .int v_offerMany, .ref a_this_seen, .int v_seenMany])), (a_this_s, .inl (G.2.1, 100, .inl R2))] (va_A [(a_this, .inr (9, [.int v_thrown, .long v_trace, .ref a_this_text, .int v_typed, .int v_next, .int v_token, .int v_place, .int v_value, .int v_fault, .int v_squares, .ref a_this_stars, .ref a_this_purses, .ref a_this_leases, .int v_starMany, .int v_tenants, .int v_draftSquares, .int v_draftStars, .int v_draftTenants, .int v_draftLeases, .ref a_this_s, .ref a_this_kept, .ref a_this_isKept, .ref a_this_offers, .int v_offerMany, .ref a_this_seen, .int v_seenMany])), (a_this_s, .inl (G.2.1, 100, .inl v_s))] sz)) 0 0 (va_A [(a_this, .inr (9, [.int v_thrown, .long v_trace, .ref a_this_text, .int v_typed, .int v_next, .int v_token, .int v_place, .int v_value, .int v_fault, .int v_squares, .ref a_this_stars, .ref a_this_purses, .ref a_this_leases, .int v_starMany, .int v_tenants, .int v_draftSquares, .int v_draftStars, .int v_draftTenants, .int v_draftLeases, .ref a_this_s, .ref a_this_kept, .ref a_this_isKept, .ref a_this_offers, .int v_offerMany, .ref a_this_seen, .int v_seenMany])), (a_this_s, .inl (G.2.1, 100, .inl v_s))] sz) := by
  refine Met.ofW (cc := cX9_lot) (maxL := 3) (ret := (some .int)) (by decide) rfl ?_
  intro p e s m args below meth c s₁ B hml hv
  obtain ⟨hargs, hsz, hP, hD0, hE⟩ := hv
  have hx := B.exec
  have hb := B.bytes
  have hr := B.returns
  have hts := atoms_spec (ws := wsX9_lot) B.pre
  have hown : s.vm.findClass RX9 = some m.cls := findClass_of_methodNamed B.named
  have hlocks := B.notSynchronized
  have hK := hE.1
  have hC : CallFix p m c cX9_lot 3 s args wsX9_lot RX9 := ⟨hx, hb, hml, hown, hts⟩
  have inX9 : ∀ w ∈ wsX90, w ∈ wsX9_lot := by decide +kernel
  have lk22 := hts (.fieldLink RX9 22 "SkyLeasesModel" "s" "[I") (by decide +kernel)
  have lk42 := hts (.fieldLink RX9 42 "SkyLeasesModel" "thrown" "I") (by decide +kernel)
  subst hsz
  have hD := hD0.self (sz := s.heap.size)
  generalize hAe : va_A [(a_this, .inr (9, [.int v_thrown, .long v_trace, .ref a_this_text, .int v_typed, .int v_next, .int v_token, .int v_place, .int v_value, .int v_fault, .int v_squares, .ref a_this_stars, .ref a_this_purses, .ref a_this_leases, .int v_starMany, .int v_tenants, .int v_draftSquares, .int v_draftStars, .int v_draftTenants, .int v_draftLeases, .ref a_this_s, .ref a_this_kept, .ref a_this_isKept, .ref a_this_offers, .int v_offerMany, .ref a_this_seen, .int v_seenMany])), (a_this_s, .inl (G.2.1, 100, .inl v_s))] s.heap.size = A at hD ⊢
  have hA : ∀ q : Nat, s.heap.size ≤ q → A q := fun q h => by rw [← hAe]; exact Or.inr h
  have hS : va_S A s.heap s.heap [] := va_S.rf
  have hP : va_P G.1 vwCl [(a_this, .inr (9, [.int v_thrown, .long v_trace, .ref a_this_text, .int v_typed, .int v_next, .int v_token, .int v_place, .int v_value, .int v_fault, .int v_squares, .ref a_this_stars, .ref a_this_purses, .ref a_this_leases, .int v_starMany, .int v_tenants, .int v_draftSquares, .int v_draftStars, .int v_draftTenants, .int v_draftLeases, .ref a_this_s, .ref a_this_kept, .ref a_this_isKept, .ref a_this_offers, .int v_offerMany, .ref a_this_seen, .int v_seenMany])), (a_this_s, .inl (G.2.1, 100, .inl v_s))] s.heap := hP
  have hl := lv_entry ([.ref a_this, .int g1]) (n := 3) (Nat.le_of_ble_eq_true rfl)
  have hent : entryFrame m args 3 = F0 m 0 ((lg_sl ([.ref a_this, .int g1]) ++ List.replicate (3 - (lg_sl ([.ref a_this, .int g1])).length) Slot.unset).toArray) [] := by rw [hargs]; exact lg_entry_eq m [.ref a_this, .int g1] 3
  refine W.eq hent ?_
  clear hent
  generalize (lg_sl ([.ref a_this, .int g1]) ++ List.replicate (3 - (lg_sl ([.ref a_this, .int g1])).length) Slot.unset).toArray = ls at hl ⊢
  have hl : lv_has ls 3 [(0, .ref a_this), (1, .int g1)] := hl
  generalize hQ : MQ below _ args s 0 0 _ = QQ
  change W p l e rm_X9_lot s m args below meth c s.heap [] 0 0 QQ _
  have hSH := hS
  unfold f_X9_lot at hf
  refine lv_aload_n hx hb dX9_lot_0 rfl (lv_at hl 0 rfl) ?_
  refine lv_iconst (v := (0 : Int32)) hx hb dX9_lot_1 (by decide) ?_
  refine va_put (D := G.1) (ci := 9) (v := .int (0 : Int32)) (ty := .int) (C := RX9) (T := TX9) (N := 26) hx hb hts inX9 tyX9 tyX9_ok nmX9 hown hK hP hD hS 0 rfl rfl 0 (by decide) lk42 (fun _ h9 => h9) rfl (by decide +kernel) rfl rfl (Nat.le_of_ble_eq_true rfl) dX9_lot_2 (fun H locs hP hD hS => ?_)
  have hP : va_P G.1 vwCl [(a_this, .inr (9, [.int (0 : Int32), .long v_trace, .ref a_this_text, .int v_typed, .int v_next, .int v_token, .int v_place, .int v_value, .int v_fault, .int v_squares, .ref a_this_stars, .ref a_this_purses, .ref a_this_leases, .int v_starMany, .int v_tenants, .int v_draftSquares, .int v_draftStars, .int v_draftTenants, .int v_draftLeases, .ref a_this_s, .ref a_this_kept, .ref a_this_isKept, .ref a_this_offers, .int v_offerMany, .ref a_this_seen, .int v_seenMany])), (a_this_s, .inl (G.2.1, 100, .inl v_s))] H := hP
  have hD : va_D A [(a_this, .inr (9, [.int (0 : Int32), .long v_trace, .ref a_this_text, .int v_typed, .int v_next, .int v_token, .int v_place, .int v_value, .int v_fault, .int v_squares, .ref a_this_stars, .ref a_this_purses, .ref a_this_leases, .int v_starMany, .int v_tenants, .int v_draftSquares, .int v_draftStars, .int v_draftTenants, .int v_draftLeases, .ref a_this_s, .ref a_this_kept, .ref a_this_isKept, .ref a_this_offers, .int v_offerMany, .ref a_this_seen, .int v_seenMany])), (a_this_s, .inl (G.2.1, 100, .inl v_s))] := hD
  refine lv_aload_n hx hb dX9_lot_5 rfl (lv_at hl 0 rfl) ?_
  refine va_get (D := G.1) (ci := 9) (v := .ref a_this_s) (C := RX9) (T := TX9) (N := 26) hx hb hts inX9 hown hK hP 0 rfl rfl 19 (by decide) lk22 (fun _ h9 => h9) rfl dX9_lot_6 ?_
  refine lv_iconst (v := (1 : Int32)) hx hb dX9_lot_9 (by decide) ?_
  obtain ⟨hg4, hf⟩ := gd_some hf
  refine va_iald hx hb hK hP 1 0 rfl rfl (inB_in hg4) dX9_lot_10 ?_
  refine lv_istore_n (lv' := [(2, .int (v_s ((1 : Int32)).toNatClampNeg)), (0, .ref a_this), (1, .int g1)]) hx hb dX9_lot_11 rfl hl (by decide) rfl (fun ls hl => ?_)
  refine lv_aload_n hx hb dX9_lot_12 rfl (lv_at hl 1 rfl) ?_
  refine va_get (D := G.1) (ci := 9) (v := .ref a_this_s) (C := RX9) (T := TX9) (N := 26) hx hb hts inX9 hown hK hP 0 rfl rfl 19 (by decide) lk22 (fun _ h9 => h9) rfl dX9_lot_13 ?_
  refine lv_iconst (v := (1 : Int32)) hx hb dX9_lot_16 (by decide) ?_
  refine lv_iload_n hx hb dX9_lot_17 rfl (lv_at hl 2 rfl) ?_
  obtain ⟨hg5, hf⟩ := gd_some hf
  refine z_iast hx hb hK hP hD hS 1 0 rfl rfl (inB_in hg5) dX9_lot_18 (fun gg => [(a_this, .inr (9, [.int (0 : Int32), .long v_trace, .ref a_this_text, .int v_typed, .int v_next, .int v_token, .int v_place, .int v_value, .int v_fault, .int v_squares, .ref a_this_stars, .ref a_this_purses, .ref a_this_leases, .int v_starMany, .int v_tenants, .int v_draftSquares, .int v_draftStars, .int v_draftTenants, .int v_draftLeases, .ref a_this_s, .ref a_this_kept, .ref a_this_isKept, .ref a_this_offers, .int v_offerMany, .ref a_this_seen, .int v_seenMany])), (a_this_s, .inl (G.2.1, 100, .inl gg))]) (fun gg => rfl) (fun y6 H locs ey6 hP hD hS => ?_)
  have hf := nm_to hf ey6
  have hP : va_P G.1 vwCl [(a_this, .inr (9, [.int (0 : Int32), .long v_trace, .ref a_this_text, .int v_typed, .int v_next, .int v_token, .int v_place, .int v_value, .int v_fault, .int v_squares, .ref a_this_stars, .ref a_this_purses, .ref a_this_leases, .int v_starMany, .int v_tenants, .int v_draftSquares, .int v_draftStars, .int v_draftTenants, .int v_draftLeases, .ref a_this_s, .ref a_this_kept, .ref a_this_isKept, .ref a_this_offers, .int v_offerMany, .ref a_this_seen, .int v_seenMany])), (a_this_s, .inl (G.2.1, 100, .inl y6))] H := hP
  have hD : va_D A [(a_this, .inr (9, [.int (0 : Int32), .long v_trace, .ref a_this_text, .int v_typed, .int v_next, .int v_token, .int v_place, .int v_value, .int v_fault, .int v_squares, .ref a_this_stars, .ref a_this_purses, .ref a_this_leases, .int v_starMany, .int v_tenants, .int v_draftSquares, .int v_draftStars, .int v_draftTenants, .int v_draftLeases, .ref a_this_s, .ref a_this_kept, .ref a_this_isKept, .ref a_this_offers, .int v_offerMany, .ref a_this_seen, .int v_seenMany])), (a_this_s, .inl (G.2.1, 100, .inl y6))] := hD
  refine lv_iload_n hx hb dX9_lot_19 rfl (lv_at hl 0 rfl) ?_
  obtain ⟨hr0, hr1, hr2⟩ := so3 hf
  subst hr0
  subst hr1
  subst hr2
  rw [← hQ]
  exact W.iret (v := (v_s ((1 : Int32)).toNatClampNeg)) hx hb hr (fun t ht hW => ⟨⟨rfl, by rw [ht]; exact hP⟩, hS.F ht⟩) hS.2.2 dX9_lot_20
